theorem dX6_freeIn_13 : decode cX6_freeIn 13 = .ok (.ifCond .eq 7, 3) := by decide +kernel
theorem dX6_freeIn_16 : decode cX6_freeIn 16 = .ok (.iconst 0, 1) := by decide +kernel
theorem dX6_freeIn_17 : decode cX6_freeIn 17 = .ok (.goto 4, 3) := by decide +kernel
theorem dX6_freeIn_20 : decode cX6_freeIn 20 = .ok (.iconst 1, 1) := by decide +kernel
theorem dX6_freeIn_21 : decode cX6_freeIn 21 = .ok (.invokevirtual 72, 3) := by decide +kernel
theorem dX6_freeIn_24 : decode cX6_freeIn 24 = .ok (.ifCond .eq 12, 3) := by decide +kernel
theorem dX6_freeIn_27 : decode cX6_freeIn 27 = .ok (.aload_n 0, 1) := by decide +kernel
theorem dX6_freeIn_28 : decode cX6_freeIn 28 = .ok (.iload_n 1, 1) := by decide +kernel
theorem dX6_freeIn_29 : decode cX6_freeIn 29 = .ok (.iload_n 2, 1) := by decide +kernel
theorem dX6_freeIn_30 : decode cX6_freeIn 30 = .ok (.invokevirtual 186, 3) := by decide +kernel
theorem dX6_freeIn_33 : decode cX6_freeIn 33 = .ok (.goto 4, 3) := by decide +kernel
theorem dX6_freeIn_36 : decode cX6_freeIn 36 = .ok (.iconst 0, 1) := by decide +kernel
theorem dX6_freeIn_37 : decode cX6_freeIn 37 = .ok (.ireturn, 1) := by decide +kernel
set_option maxRecDepth 20000 in
theorem ggX6_decent_X6_worn : GoodIn wsX6_decent wsX6_worn := goodIn_r _ [6, 7, 8, 9, 5, 10, 1, 15, 16, 17, 18, 19, 20, 21, 22, 23, 24, 25, 26] (by decide +kernel) (by decide +kernel)
set_option maxRecDepth 20000 in
theorem gX6_decent_X6_worn : GoodIn wsX6_decent (wsV RX6 56 RX6 yX6_worn wsX6_worn) := goodIn_app (goodIn_of _ (by decide +kernel)) ggX6_decent_X6_worn
set_option maxRecDepth 20000 in
theorem ggX6_decent_X6_of : GoodIn wsX6_decent wsX6_of := goodIn_r _ [10, 1, 15, 16, 17, 18, 19, 20, 21, 22, 23, 24, 25, 26] (by decide +kernel) (by decide +kernel)
set_option maxRecDepth 20000 in
theorem gX6_decent_X6_of : GoodIn wsX6_decent (wsV RX6 27 RX6 yX6_of wsX6_of) := goodIn_app (goodIn_of _ (by decide +kernel)) ggX6_decent_X6_of
set_option maxRecDepth 20000 in
theorem ggX6_decent_X6_allowed : GoodIn wsX6_decent wsX6_allowed := goodIn_r _ [14, 1, 15, 16, 17, 18, 19, 20, 21, 22, 23, 24, 25, 26] (by decide +kernel) (by decide +kernel)
set_option maxRecDepth 20000 in
theorem gX6_decent_X6_allowed : GoodIn wsX6_decent (wsV RX6 59 RX6 yX6_allowed wsX6_allowed) := goodIn_app (goodIn_of _ (by decide +kernel)) ggX6_decent_X6_allowed
theorem dX6_decent_0 : decode cX6_decent 0 = .ok (.iconst 0, 1) := by decide +kernel
theorem dX6_decent_1 : decode cX6_decent 1 = .ok (.istore_n 1, 1) := by decide +kernel
theorem dX6_decent_2 : decode cX6_decent 2 = .ok (.iconst 0, 1) := by decide +kernel
theorem dX6_decent_3 : decode cX6_decent 3 = .ok (.istore_n 2, 1) := by decide +kernel
theorem dX6_decent_4 : decode cX6_decent 4 = .ok (.iload_n 2, 1) := by decide +kernel
theorem dX6_decent_5 : decode cX6_decent 5 = .ok (.aload_n 0, 1) := by decide +kernel
theorem dX6_decent_6 : decode cX6_decent 6 = .ok (.getfield 7, 3) := by decide +kernel
theorem dX6_decent_9 : decode cX6_decent 9 = .ok (.iconst 1, 1) := by decide +kernel
theorem dX6_decent_10 : decode cX6_decent 10 = .ok (.iaload, 1) := by decide +kernel
theorem dX6_decent_11 : decode cX6_decent 11 = .ok (.if_icmp .ge 42, 3) := by decide +kernel
theorem dX6_decent_14 : decode cX6_decent 14 = .ok (.iload_n 1, 1) := by decide +kernel
theorem dX6_decent_15 : decode cX6_decent 15 = .ok (.aload_n 0, 1) := by decide +kernel
theorem dX6_decent_16 : decode cX6_decent 16 = .ok (.iload_n 2, 1) := by decide +kernel
theorem dX6_decent_17 : decode cX6_decent 17 = .ok (.invokevirtual 56, 3) := by decide +kernel
theorem dX6_decent_20 : decode cX6_decent 20 = .ok (.aload_n 0, 1) := by decide +kernel
theorem dX6_decent_21 : decode cX6_decent 21 = .ok (.iconst 0, 1) := by decide +kernel
theorem dX6_decent_22 : decode cX6_decent 22 = .ok (.aload_n 0, 1) := by decide +kernel
theorem dX6_decent_23 : decode cX6_decent 23 = .ok (.iload_n 2, 1) := by decide +kernel
theorem dX6_decent_24 : decode cX6_decent 24 = .ok (.iconst 0, 1) := by decide +kernel
theorem dX6_decent_25 : decode cX6_decent 25 = .ok (.invokevirtual 27, 3) := by decide +kernel
theorem dX6_decent_28 : decode cX6_decent 28 = .ok (.aload_n 0, 1) := by decide +kernel
theorem dX6_decent_29 : decode cX6_decent 29 = .ok (.getfield 7, 3) := by decide +kernel
theorem dX6_decent_32 : decode cX6_decent 32 = .ok (.iconst 0, 1) := by decide +kernel
theorem dX6_decent_33 : decode cX6_decent 33 = .ok (.iaload, 1) := by decide +kernel
theorem dX6_decent_34 : decode cX6_decent 34 = .ok (.invokevirtual 59, 3) := by decide +kernel
theorem dX6_decent_37 : decode cX6_decent 37 = .ok (.if_icmp .gt 7, 3) := by decide +kernel
theorem dX6_decent_40 : decode cX6_decent 40 = .ok (.iconst 1, 1) := by decide +kernel
theorem dX6_decent_41 : decode cX6_decent 41 = .ok (.goto 4, 3) := by decide +kernel
theorem dX6_decent_44 : decode cX6_decent 44 = .ok (.iconst 0, 1) := by decide +kernel
theorem dX6_decent_45 : decode cX6_decent 45 = .ok (.iadd, 1) := by decide +kernel
theorem dX6_decent_46 : decode cX6_decent 46 = .ok (.istore_n 1, 1) := by decide +kernel
theorem dX6_decent_47 : decode cX6_decent 47 = .ok (.iinc 2 1, 3) := by decide +kernel
theorem dX6_decent_50 : decode cX6_decent 50 = .ok (.goto (-46), 3) := by decide +kernel
theorem dX6_decent_53 : decode cX6_decent 53 = .ok (.aload_n 0, 1) := by decide +kernel
theorem dX6_decent_54 : decode cX6_decent 54 = .ok (.getfield 7, 3) := by decide +kernel
theorem dX6_decent_57 : decode cX6_decent 57 = .ok (.iconst 1, 1) := by decide +kernel
theorem dX6_decent_58 : decode cX6_decent 58 = .ok (.iaload, 1) := by decide +kernel
theorem dX6_decent_59 : decode cX6_decent 59 = .ok (.ifCond .ne 7, 3) := by decide +kernel
theorem dX6_decent_62 : decode cX6_decent 62 = .ok (.dconst 1, 1) := by decide +kernel
theorem dX6_decent_63 : decode cX6_decent 63 = .ok (.goto 13, 3) := by decide +kernel
theorem dX6_decent_66 : decode cX6_decent 66 = .ok (.iload_n 1, 1) := by decide +kernel
theorem dX6_decent_67 : decode cX6_decent 67 = .ok (.i2d, 1) := by decide +kernel
theorem dX6_decent_68 : decode cX6_decent 68 = .ok (.aload_n 0, 1) := by decide +kernel
theorem dX6_decent_69 : decode cX6_decent 69 = .ok (.getfield 7, 3) := by decide +kernel
theorem dX6_decent_72 : decode cX6_decent 72 = .ok (.iconst 1, 1) := by decide +kernel
theorem dX6_decent_73 : decode cX6_decent 73 = .ok (.iaload, 1) := by decide +kernel
theorem dX6_decent_74 : decode cX6_decent 74 = .ok (.i2d, 1) := by decide +kernel
theorem dX6_decent_75 : decode cX6_decent 75 = .ok (.ddiv, 1) := by decide +kernel
theorem dX6_decent_76 : decode cX6_decent 76 = .ok (.dreturn, 1) := by decide +kernel
set_option maxRecDepth 20000 in
theorem ggX6_decentShare_X6_decent : GoodIn wsX6_decentShare wsX6_decent := goodIn_r _ [6, 7, 8, 9, 10, 5, 11, 12, 13, 14, 15, 16, 17, 18, 19, 20, 21, 22, 23, 24, 25, 26, 27, 28, 29, 30, 31] (by decide +kernel) (by decide +kernel)
set_option maxRecDepth 20000 in
theorem gX6_decentShare_X6_decent : GoodIn wsX6_decentShare (wsV RX6 189 RX6 yX6_decent wsX6_decent) := goodIn_app (goodIn_of _ (by decide +kernel)) ggX6_decentShare_X6_decent
theorem dX6_decentShare_0 : decode cX6_decentShare 0 = .ok (.aload_n 0, 1) := by decide +kernel
theorem dX6_decentShare_1 : decode cX6_decentShare 1 = .ok (.iconst 0, 1) := by decide +kernel
theorem dX6_decentShare_2 : decode cX6_decentShare 2 = .ok (.putfield 19, 3) := by decide +kernel
theorem dX6_decentShare_5 : decode cX6_decentShare 5 = .ok (.aload_n 0, 1) := by decide +kernel
theorem dX6_decentShare_6 : decode cX6_decentShare 6 = .ok (.invokevirtual 189, 3) := by decide +kernel
theorem dX6_decentShare_9 : decode cX6_decentShare 9 = .ok (.dreturn, 1) := by decide +kernel
theorem dX6_mix_0 : decode cX6_mix 0 = .ok (.aload_n 0, 1) := by decide +kernel
theorem dX6_mix_1 : decode cX6_mix 1 = .ok (.ldc2_w 193, 3) := by decide +kernel
theorem dX6_mix_4 : decode cX6_mix 4 = .ok (.aload_n 0, 1) := by decide +kernel
theorem dX6_mix_5 : decode cX6_mix 5 = .ok (.getfield 195, 3) := by decide +kernel
theorem dX6_mix_8 : decode cX6_mix 8 = .ok (.lmul, 1) := by decide +kernel
theorem dX6_mix_9 : decode cX6_mix 9 = .ok (.lload_n 1, 1) := by decide +kernel
theorem dX6_mix_10 : decode cX6_mix 10 = .ok (.ladd, 1) := by decide +kernel
theorem dX6_mix_11 : decode cX6_mix 11 = .ok (.putfield 195, 3) := by decide +kernel
theorem dX6_mix_14 : decode cX6_mix 14 = .ok (.return_, 1) := by decide +kernel
theorem dX6_bits_0 : decode cX6_bits 0 = .ok (.dload_n 0, 1) := by decide +kernel
theorem dX6_bits_1 : decode cX6_bits 1 = .ok (.dconst 0, 1) := by decide +kernel
theorem dX6_bits_2 : decode cX6_bits 2 = .ok (.dcmp .l, 1) := by decide +kernel
theorem dX6_bits_3 : decode cX6_bits 3 = .ok (.ifCond .ne 5, 3) := by decide +kernel
theorem dX6_bits_6 : decode cX6_bits 6 = .ok (.lconst 0, 1) := by decide +kernel
theorem dX6_bits_7 : decode cX6_bits 7 = .ok (.lreturn, 1) := by decide +kernel
theorem dX6_bits_8 : decode cX6_bits 8 = .ok (.dload_n 0, 1) := by decide +kernel
theorem dX6_bits_9 : decode cX6_bits 9 = .ok (.dstore_n 2, 1) := by decide +kernel
theorem dX6_bits_10 : decode cX6_bits 10 = .ok (.ldc2_w 199, 3) := by decide +kernel
theorem dX6_bits_13 : decode cX6_bits 13 = .ok (.lstore 4, 2) := by decide +kernel
theorem dX6_bits_15 : decode cX6_bits 15 = .ok (.dload_n 2, 1) := by decide +kernel
theorem dX6_bits_16 : decode cX6_bits 16 = .ok (.dconst 1, 1) := by decide +kernel
theorem dX6_bits_17 : decode cX6_bits 17 = .ok (.dcmp .g, 1) := by decide +kernel
theorem dX6_bits_18 : decode cX6_bits 18 = .ok (.ifCond .ge 18, 3) := by decide +kernel
theorem dX6_bits_21 : decode cX6_bits 21 = .ok (.dload_n 2, 1) := by decide +kernel
theorem dX6_bits_22 : decode cX6_bits 22 = .ok (.ldc2_w 201, 3) := by decide +kernel
theorem dX6_bits_25 : decode cX6_bits 25 = .ok (.dmul, 1) := by decide +kernel
theorem dX6_bits_26 : decode cX6_bits 26 = .ok (.dstore_n 2, 1) := by decide +kernel
theorem dX6_bits_27 : decode cX6_bits 27 = .ok (.lload 4, 2) := by decide +kernel
theorem dX6_bits_29 : decode cX6_bits 29 = .ok (.lconst 1, 1) := by decide +kernel
theorem dX6_bits_30 : decode cX6_bits 30 = .ok (.lsub, 1) := by decide +kernel
theorem dX6_bits_31 : decode cX6_bits 31 = .ok (.lstore 4, 2) := by decide +kernel
theorem dX6_bits_33 : decode cX6_bits 33 = .ok (.goto (-18), 3) := by decide +kernel
theorem dX6_bits_36 : decode cX6_bits 36 = .ok (.lload 4, 2) := by decide +kernel
theorem dX6_bits_38 : decode cX6_bits 38 = .ok (.ldc2_w 203, 3) := by decide +kernel
theorem dX6_bits_41 : decode cX6_bits 41 = .ok (.lmul, 1) := by decide +kernel
theorem dX6_bits_42 : decode cX6_bits 42 = .ok (.dload_n 2, 1) := by decide +kernel
theorem dX6_bits_43 : decode cX6_bits 43 = .ok (.dconst 1, 1) := by decide +kernel
theorem dX6_bits_44 : decode cX6_bits 44 = .ok (.dsub, 1) := by decide +kernel
theorem dX6_bits_45 : decode cX6_bits 45 = .ok (.ldc2_w 205, 3) := by decide +kernel
theorem dX6_bits_48 : decode cX6_bits 48 = .ok (.dmul, 1) := by decide +kernel
theorem dX6_bits_49 : decode cX6_bits 49 = .ok (.d2l, 1) := by decide +kernel
theorem dX6_bits_50 : decode cX6_bits 50 = .ok (.ladd, 1) := by decide +kernel
theorem dX6_bits_51 : decode cX6_bits 51 = .ok (.lreturn, 1) := by decide +kernel
set_option maxRecDepth 20000 in
theorem ggX6_mixGuest_X6_ofGuest : GoodIn wsX6_mixGuest wsX6_ofGuest := goodIn_r _ [5, 6, 7, 8, 4, 9, 10, 11, 12, 13, 14, 15, 16, 17, 18, 19, 20, 21, 22, 23, 24, 25, 26, 27, 28, 29, 30, 73, 74, 75, 76, 77, 78, 79, 80, 81, 82, 83, 84] (by decide +kernel) (by decide +kernel)
set_option maxRecDepth 20000 in
theorem gX6_mixGuest_X6_ofGuest : GoodIn wsX6_mixGuest (wsV RX6 165 RX6 yX6_ofGuest wsX6_ofGuest) := goodIn_app (goodIn_of _ (by decide +kernel)) ggX6_mixGuest_X6_ofGuest
set_option maxRecDepth 20000 in
theorem ggX6_mixGuest_X6_mix : GoodIn wsX6_mixGuest wsX6_mix := goodIn_r _ [34, 35, 36, 73, 74, 75, 76, 77, 78, 79, 80, 81, 82, 83, 84] (by decide +kernel) (by decide +kernel)
set_option maxRecDepth 20000 in
theorem gX6_mixGuest_X6_mix : GoodIn wsX6_mixGuest (wsV RX6 207 RX6 yX6_mix wsX6_mix) := goodIn_app (goodIn_of _ (by decide +kernel)) ggX6_mixGuest_X6_mix
set_option maxRecDepth 20000 in
theorem ggX6_mixGuest_X6_whyNoMask : GoodIn wsX6_mixGuest wsX6_whyNoMask := goodIn_r _ [40, 23, 24, 25, 4, 26, 14, 73, 74, 75, 76, 77, 78, 79, 80, 81, 82, 83, 84] (by decide +kernel) (by decide +kernel)
set_option maxRecDepth 20000 in
theorem gX6_mixGuest_X6_whyNoMask : GoodIn wsX6_mixGuest (wsV RX6 93 RX6 yX6_whyNoMask wsX6_whyNoMask) := goodIn_app (goodIn_of _ (by decide +kernel)) ggX6_mixGuest_X6_whyNoMask
set_option maxRecDepth 20000 in
theorem ggX6_mixGuest_X6_whyNoLine : GoodIn wsX6_mixGuest wsX6_whyNoLine := goodIn_r _ [44, 14, 23, 24, 25, 4, 26, 6, 7, 8, 9, 10, 11, 12, 13, 15, 16, 17, 18, 73, 74, 75, 76, 77, 78, 79, 80, 81, 82, 83, 84] (by decide +kernel) (by decide +kernel)
set_option maxRecDepth 20000 in
theorem gX6_mixGuest_X6_whyNoLine : GoodIn wsX6_mixGuest (wsV RX6 105 RX6 yX6_whyNoLine wsX6_whyNoLine) := goodIn_app (goodIn_of _ (by decide +kernel)) ggX6_mixGuest_X6_whyNoLine
set_option maxRecDepth 20000 in
theorem ggX6_mixGuest_X6_best : GoodIn wsX6_mixGuest wsX6_best := goodIn_r _ [48, 49, 50, 51, 4, 52, 53, 54, 55, 56, 57, 14, 23, 24, 25, 26, 19, 20, 21, 22, 58, 59, 60, 61, 62, 63, 64, 65, 66, 67, 68, 10, 11, 12, 13, 73, 74, 75, 76, 77, 78, 79, 80, 81, 82, 83, 84] (by decide +kernel) (by decide +kernel)
set_option maxRecDepth 20000 in
theorem gX6_mixGuest_X6_best : GoodIn wsX6_mixGuest (wsV RX6 183 RX6 yX6_best wsX6_best) := goodIn_app (goodIn_of _ (by decide +kernel)) ggX6_mixGuest_X6_best
set_option maxRecDepth 20000 in
theorem ggX6_mixGuest_X6_wouldBring : GoodIn wsX6_mixGuest wsX6_wouldBring := goodIn_r _ [52, 53, 54, 55, 56, 4, 57, 14, 23, 24, 25, 26, 19, 20, 21, 22, 58, 59, 60, 61, 62, 63, 64, 65, 66, 67, 68, 73, 74, 75, 76, 77, 78, 79, 80, 81, 82, 83, 84] (by decide +kernel) (by decide +kernel)
set_option maxRecDepth 20000 in
theorem gX6_mixGuest_X6_wouldBring : GoodIn wsX6_mixGuest (wsV RX6 180 RX6 yX6_wouldBring wsX6_wouldBring) := goodIn_app (goodIn_of _ (by decide +kernel)) ggX6_mixGuest_X6_wouldBring
set_option maxRecDepth 20000 in
theorem ggX6_mixGuest_X6_free : GoodIn wsX6_mixGuest wsX6_free := goodIn_r _ [72, 14, 19, 20, 21, 4, 22, 23, 24, 25, 26, 58, 59, 60, 61, 73, 74, 75, 76, 77, 78, 79, 80, 81, 82, 83, 84] (by decide +kernel) (by decide +kernel)
set_option maxRecDepth 20000 in
theorem gX6_mixGuest_X6_free : GoodIn wsX6_mixGuest (wsV RX6 186 RX6 yX6_free wsX6_free) := goodIn_app (goodIn_of _ (by decide +kernel)) ggX6_mixGuest_X6_free
theorem dX6_mixGuest_0 : decode cX6_mixGuest 0 = .ok (.iconst 0, 1) := by decide +kernel
theorem dX6_mixGuest_1 : decode cX6_mixGuest 1 = .ok (.istore_n 2, 1) := by decide +kernel
theorem dX6_mixGuest_2 : decode cX6_mixGuest 2 = .ok (.iload_n 2, 1) := by decide +kernel
theorem dX6_mixGuest_3 : decode cX6_mixGuest 3 = .ok (.bipush 11, 2) := by decide +kernel
theorem dX6_mixGuest_5 : decode cX6_mixGuest 5 = .ok (.if_icmp .ge 20, 3) := by decide +kernel
theorem dX6_mixGuest_8 : decode cX6_mixGuest 8 = .ok (.aload_n 0, 1) := by decide +kernel
theorem dX6_mixGuest_9 : decode cX6_mixGuest 9 = .ok (.aload_n 0, 1) := by decide +kernel
theorem dX6_mixGuest_10 : decode cX6_mixGuest 10 = .ok (.iload_n 1, 1) := by decide +kernel
theorem dX6_mixGuest_11 : decode cX6_mixGuest 11 = .ok (.iload_n 2, 1) := by decide +kernel
theorem dX6_mixGuest_12 : decode cX6_mixGuest 12 = .ok (.invokevirtual 165, 3) := by decide +kernel
theorem dX6_mixGuest_15 : decode cX6_mixGuest 15 = .ok (.i2l, 1) := by decide +kernel
theorem dX6_mixGuest_16 : decode cX6_mixGuest 16 = .ok (.invokevirtual 207, 3) := by decide +kernel
theorem dX6_mixGuest_19 : decode cX6_mixGuest 19 = .ok (.iinc 2 1, 3) := by decide +kernel
theorem dX6_mixGuest_22 : decode cX6_mixGuest 22 = .ok (.goto (-20), 3) := by decide +kernel
theorem dX6_mixGuest_25 : decode cX6_mixGuest 25 = .ok (.aload_n 0, 1) := by decide +kernel
theorem dX6_mixGuest_26 : decode cX6_mixGuest 26 = .ok (.aload_n 0, 1) := by decide +kernel
theorem dX6_mixGuest_27 : decode cX6_mixGuest 27 = .ok (.iload_n 1, 1) := by decide +kernel
theorem dX6_mixGuest_28 : decode cX6_mixGuest 28 = .ok (.invokevirtual 93, 3) := by decide +kernel
theorem dX6_mixGuest_31 : decode cX6_mixGuest 31 = .ok (.i2l, 1) := by decide +kernel
theorem dX6_mixGuest_32 : decode cX6_mixGuest 32 = .ok (.invokevirtual 207, 3) := by decide +kernel
theorem dX6_mixGuest_35 : decode cX6_mixGuest 35 = .ok (.aload_n 0, 1) := by decide +kernel
theorem dX6_mixGuest_36 : decode cX6_mixGuest 36 = .ok (.aload_n 0, 1) := by decide +kernel
theorem dX6_mixGuest_37 : decode cX6_mixGuest 37 = .ok (.iload_n 1, 1) := by decide +kernel
theorem dX6_mixGuest_38 : decode cX6_mixGuest 38 = .ok (.invokevirtual 105, 3) := by decide +kernel
theorem dX6_mixGuest_41 : decode cX6_mixGuest 41 = .ok (.i2l, 1) := by decide +kernel
theorem dX6_mixGuest_42 : decode cX6_mixGuest 42 = .ok (.invokevirtual 207, 3) := by decide +kernel
theorem dX6_mixGuest_45 : decode cX6_mixGuest 45 = .ok (.aload_n 0, 1) := by decide +kernel
theorem dX6_mixGuest_46 : decode cX6_mixGuest 46 = .ok (.aload_n 0, 1) := by decide +kernel
theorem dX6_mixGuest_47 : decode cX6_mixGuest 47 = .ok (.iload_n 1, 1) := by decide +kernel
theorem dX6_mixGuest_48 : decode cX6_mixGuest 48 = .ok (.invokevirtual 183, 3) := by decide +kernel
theorem dX6_mixGuest_51 : decode cX6_mixGuest 51 = .ok (.i2l, 1) := by decide +kernel
theorem dX6_mixGuest_52 : decode cX6_mixGuest 52 = .ok (.invokevirtual 207, 3) := by decide +kernel
theorem dX6_mixGuest_55 : decode cX6_mixGuest 55 = .ok (.iconst 0, 1) := by decide +kernel
theorem dX6_mixGuest_56 : decode cX6_mixGuest 56 = .ok (.istore_n 2, 1) := by decide +kernel
theorem dX6_mixGuest_57 : decode cX6_mixGuest 57 = .ok (.iload_n 2, 1) := by decide +kernel
theorem dX6_mixGuest_58 : decode cX6_mixGuest 58 = .ok (.iconst 3, 1) := by decide +kernel
theorem dX6_mixGuest_59 : decode cX6_mixGuest 59 = .ok (.if_icmp .ge 45, 3) := by decide +kernel
theorem dX6_mixGuest_62 : decode cX6_mixGuest 62 = .ok (.iconst 0, 1) := by decide +kernel
theorem dX6_mixGuest_63 : decode cX6_mixGuest 63 = .ok (.istore_n 3, 1) := by decide +kernel
theorem dX6_mixGuest_64 : decode cX6_mixGuest 64 = .ok (.iload_n 3, 1) := by decide +kernel
theorem dX6_mixGuest_65 : decode cX6_mixGuest 65 = .ok (.iconst 4, 1) := by decide +kernel
theorem dX6_mixGuest_66 : decode cX6_mixGuest 66 = .ok (.if_icmp .ge 21, 3) := by decide +kernel
theorem dX6_mixGuest_69 : decode cX6_mixGuest 69 = .ok (.aload_n 0, 1) := by decide +kernel
theorem dX6_mixGuest_70 : decode cX6_mixGuest 70 = .ok (.aload_n 0, 1) := by decide +kernel
theorem dX6_mixGuest_71 : decode cX6_mixGuest 71 = .ok (.iload_n 1, 1) := by decide +kernel
theorem dX6_mixGuest_72 : decode cX6_mixGuest 72 = .ok (.iload_n 2, 1) := by decide +kernel
theorem dX6_mixGuest_73 : decode cX6_mixGuest 73 = .ok (.iload_n 3, 1) := by decide +kernel
theorem dX6_mixGuest_74 : decode cX6_mixGuest 74 = .ok (.invokevirtual 180, 3) := by decide +kernel
theorem dX6_mixGuest_77 : decode cX6_mixGuest 77 = .ok (.i2l, 1) := by decide +kernel
theorem dX6_mixGuest_78 : decode cX6_mixGuest 78 = .ok (.invokevirtual 207, 3) := by decide +kernel
theorem dX6_mixGuest_81 : decode cX6_mixGuest 81 = .ok (.iinc 3 1, 3) := by decide +kernel
theorem dX6_mixGuest_84 : decode cX6_mixGuest 84 = .ok (.goto (-20), 3) := by decide +kernel
theorem dX6_mixGuest_87 : decode cX6_mixGuest 87 = .ok (.aload_n 0, 1) := by decide +kernel
theorem dX6_mixGuest_88 : decode cX6_mixGuest 88 = .ok (.aload_n 0, 1) := by decide +kernel
theorem dX6_mixGuest_89 : decode cX6_mixGuest 89 = .ok (.iload_n 1, 1) := by decide +kernel
theorem dX6_mixGuest_90 : decode cX6_mixGuest 90 = .ok (.iload_n 2, 1) := by decide +kernel
theorem dX6_mixGuest_91 : decode cX6_mixGuest 91 = .ok (.invokevirtual 186, 3) := by decide +kernel
theorem dX6_mixGuest_94 : decode cX6_mixGuest 94 = .ok (.i2l, 1) := by decide +kernel
theorem dX6_mixGuest_95 : decode cX6_mixGuest 95 = .ok (.invokevirtual 207, 3) := by decide +kernel
theorem dX6_mixGuest_98 : decode cX6_mixGuest 98 = .ok (.iinc 2 1, 3) := by decide +kernel
theorem dX6_mixGuest_101 : decode cX6_mixGuest 101 = .ok (.goto (-44), 3) := by decide +kernel
theorem dX6_mixGuest_104 : decode cX6_mixGuest 104 = .ok (.return_, 1) := by decide +kernel
set_option maxRecDepth 20000 in
theorem ggX6_digest_X6_counted : GoodIn wsX6_digest wsX6_counted := goodIn_r _ [11, 4, 12, 13, 14, 15, 10, 16, 17, 18, 19, 20, 21, 22, 23, 24, 25, 26, 27, 28, 29, 30, 31, 32, 109, 110, 111, 112, 113, 114, 115, 116, 117, 118, 119, 120] (by decide +kernel) (by decide +kernel)
set_option maxRecDepth 20000 in
theorem gX6_digest_X6_counted : GoodIn wsX6_digest (wsV RX6 177 RX6 yX6_counted wsX6_counted) := goodIn_app (goodIn_of _ (by decide +kernel)) ggX6_digest_X6_counted
set_option maxRecDepth 20000 in
theorem ggX6_digest_X6_mix : GoodIn wsX6_digest wsX6_mix := goodIn_r _ [36, 37, 3, 109, 110, 111, 112, 113, 114, 115, 116, 117, 118, 119, 120] (by decide +kernel) (by decide +kernel)
set_option maxRecDepth 20000 in
theorem gX6_digest_X6_mix : GoodIn wsX6_digest (wsV RX6 207 RX6 yX6_mix wsX6_mix) := goodIn_app (goodIn_of _ (by decide +kernel)) ggX6_digest_X6_mix
set_option maxRecDepth 20000 in
theorem ggX6_digest_X6_mixGuest : GoodIn wsX6_digest wsX6_mixGuest := goodIn_r _ [41, 42, 43, 44, 10, 45, 46, 47, 48, 49, 21, 22, 23, 24, 4, 50, 51, 52, 53, 54, 55, 56, 57, 17, 18, 19, 20, 58, 59, 60, 61, 33, 34, 35, 36, 37, 3, 62, 63, 64, 65, 66, 67, 68, 69, 70, 71, 72, 73, 74, 75, 76, 77, 78, 79, 80, 81, 82, 83, 84, 85, 86, 87, 88, 89, 90, 91, 92, 93, 94, 95, 96, 97, 109, 110, 111, 112, 113, 114, 115, 116, 117, 118, 119, 120] (by decide +kernel) (by decide +kernel)
set_option maxRecDepth 20000 in
theorem gX6_digest_X6_mixGuest : GoodIn wsX6_digest (wsV RX6 213 RX6 yX6_mixGuest wsX6_mixGuest) := goodIn_app (goodIn_of _ (by decide +kernel)) ggX6_digest_X6_mixGuest
set_option maxRecDepth 20000 in
theorem ggX6_digest_X6_lineLength : GoodIn wsX6_digest wsX6_lineLength := goodIn_r _ [24, 4, 109, 110, 111, 112, 113, 114, 115, 116, 117, 118, 119, 120] (by decide +kernel) (by decide +kernel)
set_option maxRecDepth 20000 in
theorem gX6_digest_X6_lineLength : GoodIn wsX6_digest (wsV RX6 39 RX6 yX6_lineLength wsX6_lineLength) := goodIn_app (goodIn_of _ (by decide +kernel)) ggX6_digest_X6_lineLength
set_option maxRecDepth 20000 in
theorem ggX6_digest_X6_allowed : GoodIn wsX6_digest wsX6_allowed := goodIn_r _ [86, 4, 109, 110, 111, 112, 113, 114, 115, 116, 117, 118, 119, 120] (by decide +kernel) (by decide +kernel)
set_option maxRecDepth 20000 in
theorem gX6_digest_X6_allowed : GoodIn wsX6_digest (wsV RX6 59 RX6 yX6_allowed wsX6_allowed) := goodIn_app (goodIn_of _ (by decide +kernel)) ggX6_digest_X6_allowed
set_option maxRecDepth 20000 in
theorem ggX6_digest_X6_inLine : GoodIn wsX6_digest wsX6_inLine := goodIn_r _ [53, 4, 109, 110, 111, 112, 113, 114, 115, 116, 117, 118, 119, 120] (by decide +kernel) (by decide +kernel)
set_option maxRecDepth 20000 in
theorem gX6_digest_X6_inLine : GoodIn wsX6_digest (wsV RX6 43 RX6 yX6_inLine wsX6_inLine) := goodIn_app (goodIn_of _ (by decide +kernel)) ggX6_digest_X6_inLine
set_option maxRecDepth 20000 in
theorem ggX6_digest_X6_decent : GoodIn wsX6_digest wsX6_decent := goodIn_r _ [101, 4, 54, 55, 56, 10, 57, 17, 18, 19, 20, 83, 84, 85, 86, 109, 110, 111, 112, 113, 114, 115, 116, 117, 118, 119, 120] (by decide +kernel) (by decide +kernel)
set_option maxRecDepth 20000 in
theorem gX6_digest_X6_decent : GoodIn wsX6_digest (wsV RX6 189 RX6 yX6_decent wsX6_decent) := goodIn_app (goodIn_of _ (by decide +kernel)) ggX6_digest_X6_decent
set_option maxRecDepth 20000 in
theorem ggX6_digest_X6_bits : GoodIn wsX6_digest wsX6_bits := goodIn_r _ [104, 105, 106, 107, 108] (by decide +kernel) (by decide +kernel)
set_option maxRecDepth 20000 in
theorem gX6_digest_X6_bits : GoodIn wsX6_digest (va_wsS RX6 217 yX6_bits wsX6_bits) := goodIn_app (goodIn_of _ (by decide +kernel)) ggX6_digest_X6_bits
theorem dX6_digest_0 : decode cX6_digest 0 = .ok (.aload_n 0, 1) := by decide +kernel
theorem dX6_digest_1 : decode cX6_digest 1 = .ok (.iconst 0, 1) := by decide +kernel
theorem dX6_digest_2 : decode cX6_digest 2 = .ok (.putfield 19, 3) := by decide +kernel
theorem dX6_digest_5 : decode cX6_digest 5 = .ok (.aload_n 0, 1) := by decide +kernel
theorem dX6_digest_6 : decode cX6_digest 6 = .ok (.ldc2_w 211, 3) := by decide +kernel
theorem dX6_digest_9 : decode cX6_digest 9 = .ok (.putfield 195, 3) := by decide +kernel
theorem dX6_digest_12 : decode cX6_digest 12 = .ok (.iconst 0, 1) := by decide +kernel
theorem dX6_digest_13 : decode cX6_digest 13 = .ok (.istore_n 1, 1) := by decide +kernel
theorem dX6_digest_14 : decode cX6_digest 14 = .ok (.iload_n 1, 1) := by decide +kernel
theorem dX6_digest_15 : decode cX6_digest 15 = .ok (.bipush 22, 2) := by decide +kernel
theorem dX6_digest_17 : decode cX6_digest 17 = .ok (.if_icmp .ge 19, 3) := by decide +kernel
theorem dX6_digest_20 : decode cX6_digest 20 = .ok (.aload_n 0, 1) := by decide +kernel
theorem dX6_digest_21 : decode cX6_digest 21 = .ok (.aload_n 0, 1) := by decide +kernel
theorem dX6_digest_22 : decode cX6_digest 22 = .ok (.iload_n 1, 1) := by decide +kernel
theorem dX6_digest_23 : decode cX6_digest 23 = .ok (.invokevirtual 177, 3) := by decide +kernel
theorem dX6_digest_26 : decode cX6_digest 26 = .ok (.i2l, 1) := by decide +kernel
theorem dX6_digest_27 : decode cX6_digest 27 = .ok (.invokevirtual 207, 3) := by decide +kernel
theorem dX6_digest_30 : decode cX6_digest 30 = .ok (.iinc 1 1, 3) := by decide +kernel
theorem dX6_digest_33 : decode cX6_digest 33 = .ok (.goto (-19), 3) := by decide +kernel
theorem dX6_digest_36 : decode cX6_digest 36 = .ok (.iconst 0, 1) := by decide +kernel
theorem dX6_digest_37 : decode cX6_digest 37 = .ok (.istore_n 1, 1) := by decide +kernel
theorem dX6_digest_38 : decode cX6_digest 38 = .ok (.iload_n 1, 1) := by decide +kernel
theorem dX6_digest_39 : decode cX6_digest 39 = .ok (.aload_n 0, 1) := by decide +kernel
theorem dX6_digest_40 : decode cX6_digest 40 = .ok (.getfield 7, 3) := by decide +kernel
theorem dX6_digest_43 : decode cX6_digest 43 = .ok (.iconst 1, 1) := by decide +kernel
theorem dX6_digest_44 : decode cX6_digest 44 = .ok (.iaload, 1) := by decide +kernel
theorem dX6_digest_45 : decode cX6_digest 45 = .ok (.if_icmp .ge 14, 3) := by decide +kernel
theorem dX6_digest_48 : decode cX6_digest 48 = .ok (.aload_n 0, 1) := by decide +kernel
theorem dX6_digest_49 : decode cX6_digest 49 = .ok (.iload_n 1, 1) := by decide +kernel
theorem dX6_digest_50 : decode cX6_digest 50 = .ok (.invokevirtual 213, 3) := by decide +kernel
theorem dX6_digest_53 : decode cX6_digest 53 = .ok (.iinc 1 1, 3) := by decide +kernel
theorem dX6_digest_56 : decode cX6_digest 56 = .ok (.goto (-18), 3) := by decide +kernel
theorem dX6_digest_59 : decode cX6_digest 59 = .ok (.iconst 0, 1) := by decide +kernel
theorem dX6_digest_60 : decode cX6_digest 60 = .ok (.istore_n 1, 1) := by decide +kernel
theorem dX6_digest_61 : decode cX6_digest 61 = .ok (.iload_n 1, 1) := by decide +kernel
theorem dX6_digest_62 : decode cX6_digest 62 = .ok (.iconst 3, 1) := by decide +kernel
theorem dX6_digest_63 : decode cX6_digest 63 = .ok (.if_icmp .ge 77, 3) := by decide +kernel
theorem dX6_digest_66 : decode cX6_digest 66 = .ok (.aload_n 0, 1) := by decide +kernel
theorem dX6_digest_67 : decode cX6_digest 67 = .ok (.aload_n 0, 1) := by decide +kernel
theorem dX6_digest_68 : decode cX6_digest 68 = .ok (.iload_n 1, 1) := by decide +kernel
theorem dX6_digest_69 : decode cX6_digest 69 = .ok (.invokevirtual 39, 3) := by decide +kernel
theorem dX6_digest_72 : decode cX6_digest 72 = .ok (.i2l, 1) := by decide +kernel
theorem dX6_digest_73 : decode cX6_digest 73 = .ok (.invokevirtual 207, 3) := by decide +kernel
theorem dX6_digest_76 : decode cX6_digest 76 = .ok (.iconst 0, 1) := by decide +kernel
theorem dX6_digest_77 : decode cX6_digest 77 = .ok (.istore_n 2, 1) := by decide +kernel
theorem dX6_digest_78 : decode cX6_digest 78 = .ok (.iload_n 2, 1) := by decide +kernel
theorem dX6_digest_79 : decode cX6_digest 79 = .ok (.iconst 5, 1) := by decide +kernel
theorem dX6_digest_80 : decode cX6_digest 80 = .ok (.if_icmp .ge 26, 3) := by decide +kernel
theorem dX6_digest_83 : decode cX6_digest 83 = .ok (.aload_n 0, 1) := by decide +kernel
theorem dX6_digest_84 : decode cX6_digest 84 = .ok (.aload_n 0, 1) := by decide +kernel
theorem dX6_digest_85 : decode cX6_digest 85 = .ok (.iload_n 1, 1) := by decide +kernel
theorem dX6_digest_86 : decode cX6_digest 86 = .ok (.iload_n 2, 1) := by decide +kernel
theorem dX6_digest_87 : decode cX6_digest 87 = .ok (.aload_n 0, 1) := by decide +kernel
theorem dX6_digest_88 : decode cX6_digest 88 = .ok (.getfield 7, 3) := by decide +kernel
theorem dX6_digest_91 : decode cX6_digest 91 = .ok (.iconst 0, 1) := by decide +kernel
theorem dX6_digest_92 : decode cX6_digest 92 = .ok (.iaload, 1) := by decide +kernel
theorem dX6_digest_93 : decode cX6_digest 93 = .ok (.invokevirtual 59, 3) := by decide +kernel
theorem dX6_digest_96 : decode cX6_digest 96 = .ok (.i2l, 1) := by decide +kernel
theorem dX6_digest_97 : decode cX6_digest 97 = .ok (.invokevirtual 207, 3) := by decide +kernel
theorem dX6_digest_100 : decode cX6_digest 100 = .ok (.iinc 2 1, 3) := by decide +kernel
theorem dX6_digest_103 : decode cX6_digest 103 = .ok (.goto (-25), 3) := by decide +kernel
theorem dX6_digest_106 : decode cX6_digest 106 = .ok (.iconst 0, 1) := by decide +kernel
theorem dX6_digest_107 : decode cX6_digest 107 = .ok (.istore_n 2, 1) := by decide +kernel
theorem dX6_digest_108 : decode cX6_digest 108 = .ok (.iload_n 2, 1) := by decide +kernel
theorem dX6_digest_109 : decode cX6_digest 109 = .ok (.aload_n 0, 1) := by decide +kernel
theorem dX6_digest_110 : decode cX6_digest 110 = .ok (.iload_n 1, 1) := by decide +kernel
theorem dX6_digest_111 : decode cX6_digest 111 = .ok (.invokevirtual 39, 3) := by decide +kernel
theorem dX6_digest_114 : decode cX6_digest 114 = .ok (.if_icmp .ge 20, 3) := by decide +kernel
theorem dX6_digest_117 : decode cX6_digest 117 = .ok (.aload_n 0, 1) := by decide +kernel
theorem dX6_digest_118 : decode cX6_digest 118 = .ok (.aload_n 0, 1) := by decide +kernel
theorem dX6_digest_119 : decode cX6_digest 119 = .ok (.iload_n 1, 1) := by decide +kernel
theorem dX6_digest_120 : decode cX6_digest 120 = .ok (.iload_n 2, 1) := by decide +kernel
theorem dX6_digest_121 : decode cX6_digest 121 = .ok (.invokevirtual 43, 3) := by decide +kernel
theorem dX6_digest_124 : decode cX6_digest 124 = .ok (.i2l, 1) := by decide +kernel
theorem dX6_digest_125 : decode cX6_digest 125 = .ok (.invokevirtual 207, 3) := by decide +kernel
theorem dX6_digest_128 : decode cX6_digest 128 = .ok (.iinc 2 1, 3) := by decide +kernel
theorem dX6_digest_131 : decode cX6_digest 131 = .ok (.goto (-23), 3) := by decide +kernel
theorem dX6_digest_134 : decode cX6_digest 134 = .ok (.iinc 1 1, 3) := by decide +kernel
theorem dX6_digest_137 : decode cX6_digest 137 = .ok (.goto (-76), 3) := by decide +kernel
theorem dX6_digest_140 : decode cX6_digest 140 = .ok (.aload_n 0, 1) := by decide +kernel
theorem dX6_digest_141 : decode cX6_digest 141 = .ok (.aload_n 0, 1) := by decide +kernel
theorem dX6_digest_142 : decode cX6_digest 142 = .ok (.getfield 7, 3) := by decide +kernel
theorem dX6_digest_145 : decode cX6_digest 145 = .ok (.bipush 8, 2) := by decide +kernel
theorem dX6_digest_147 : decode cX6_digest 147 = .ok (.iaload, 1) := by decide +kernel
theorem dX6_digest_148 : decode cX6_digest 148 = .ok (.i2l, 1) := by decide +kernel
theorem dX6_digest_149 : decode cX6_digest 149 = .ok (.invokevirtual 207, 3) := by decide +kernel
theorem dX6_digest_152 : decode cX6_digest 152 = .ok (.aload_n 0, 1) := by decide +kernel
theorem dX6_digest_153 : decode cX6_digest 153 = .ok (.aload_n 0, 1) := by decide +kernel
theorem dX6_digest_154 : decode cX6_digest 154 = .ok (.getfield 7, 3) := by decide +kernel
theorem dX6_digest_157 : decode cX6_digest 157 = .ok (.bipush 9, 2) := by decide +kernel
theorem dX6_digest_159 : decode cX6_digest 159 = .ok (.iaload, 1) := by decide +kernel
theorem dX6_digest_160 : decode cX6_digest 160 = .ok (.i2l, 1) := by decide +kernel
theorem dX6_digest_161 : decode cX6_digest 161 = .ok (.invokevirtual 207, 3) := by decide +kernel
theorem dX6_digest_164 : decode cX6_digest 164 = .ok (.aload_n 0, 1) := by decide +kernel
theorem dX6_digest_165 : decode cX6_digest 165 = .ok (.aload_n 0, 1) := by decide +kernel
theorem dX6_digest_166 : decode cX6_digest 166 = .ok (.invokevirtual 189, 3) := by decide +kernel
theorem dX6_digest_169 : decode cX6_digest 169 = .ok (.invokestatic 217, 3) := by decide +kernel
theorem dX6_digest_172 : decode cX6_digest 172 = .ok (.invokevirtual 207, 3) := by decide +kernel
theorem dX6_digest_175 : decode cX6_digest 175 = .ok (.aload_n 0, 1) := by decide +kernel
theorem dX6_digest_176 : decode cX6_digest 176 = .ok (.aload_n 0, 1) := by decide +kernel
theorem dX6_digest_177 : decode cX6_digest 177 = .ok (.getfield 121, 3) := by decide +kernel
theorem dX6_digest_180 : decode cX6_digest 180 = .ok (.i2l, 1) := by decide +kernel
theorem dX6_digest_181 : decode cX6_digest 181 = .ok (.invokevirtual 207, 3) := by decide +kernel
theorem dX6_digest_184 : decode cX6_digest 184 = .ok (.iconst 0, 1) := by decide +kernel
theorem dX6_digest_185 : decode cX6_digest 185 = .ok (.istore_n 1, 1) := by decide +kernel
theorem dX6_digest_186 : decode cX6_digest 186 = .ok (.iload_n 1, 1) := by decide +kernel
theorem dX6_digest_187 : decode cX6_digest 187 = .ok (.aload_n 0, 1) := by decide +kernel
theorem dX6_digest_188 : decode cX6_digest 188 = .ok (.getfield 121, 3) := by decide +kernel
theorem dX6_digest_191 : decode cX6_digest 191 = .ok (.if_icmp .ge 20, 3) := by decide +kernel
theorem dX6_digest_194 : decode cX6_digest 194 = .ok (.aload_n 0, 1) := by decide +kernel
theorem dX6_digest_195 : decode cX6_digest 195 = .ok (.aload_n 0, 1) := by decide +kernel
theorem dX6_digest_196 : decode cX6_digest 196 = .ok (.getfield 13, 3) := by decide +kernel
theorem dX6_digest_199 : decode cX6_digest 199 = .ok (.iload_n 1, 1) := by decide +kernel
theorem dX6_digest_200 : decode cX6_digest 200 = .ok (.iaload, 1) := by decide +kernel
theorem dX6_digest_201 : decode cX6_digest 201 = .ok (.i2l, 1) := by decide +kernel
theorem dX6_digest_202 : decode cX6_digest 202 = .ok (.invokevirtual 207, 3) := by decide +kernel
theorem dX6_digest_205 : decode cX6_digest 205 = .ok (.iinc 1 1, 3) := by decide +kernel
theorem dX6_digest_208 : decode cX6_digest 208 = .ok (.goto (-22), 3) := by decide +kernel
theorem dX6_digest_211 : decode cX6_digest 211 = .ok (.aload_n 0, 1) := by decide +kernel
theorem dX6_digest_212 : decode cX6_digest 212 = .ok (.getfield 195, 3) := by decide +kernel
theorem dX6_digest_215 : decode cX6_digest 215 = .ok (.lreturn, 1) := by decide +kernel
theorem dJ9_max_7cf53_0 : decode cJ9_max_7cf53 0 = .ok (.iload_n 0, 1) := by decide +kernel
theorem dJ9_max_7cf53_1 : decode cJ9_max_7cf53 1 = .ok (.iload_n 1, 1) := by decide +kernel
theorem dJ9_max_7cf53_2 : decode cJ9_max_7cf53 2 = .ok (.if_icmp .lt 7, 3) := by decide +kernel
theorem dJ9_max_7cf53_5 : decode cJ9_max_7cf53 5 = .ok (.iload_n 0, 1) := by decide +kernel
theorem dJ9_max_7cf53_6 : decode cJ9_max_7cf53 6 = .ok (.goto 4, 3) := by decide +kernel
theorem dJ9_max_7cf53_9 : decode cJ9_max_7cf53 9 = .ok (.iload_n 1, 1) := by decide +kernel
theorem dJ9_max_7cf53_10 : decode cJ9_max_7cf53 10 = .ok (.ireturn, 1) := by decide +kernel
theorem dJ9_min_7cf53_0 : decode cJ9_min_7cf53 0 = .ok (.iload_n 0, 1) := by decide +kernel
theorem dJ9_min_7cf53_1 : decode cJ9_min_7cf53 1 = .ok (.iload_n 1, 1) := by decide +kernel
theorem dJ9_min_7cf53_2 : decode cJ9_min_7cf53 2 = .ok (.if_icmp .gt 7, 3) := by decide +kernel
theorem dJ9_min_7cf53_5 : decode cJ9_min_7cf53 5 = .ok (.iload_n 0, 1) := by decide +kernel
theorem dJ9_min_7cf53_6 : decode cJ9_min_7cf53 6 = .ok (.goto 4, 3) := by decide +kernel
theorem dJ9_min_7cf53_9 : decode cJ9_min_7cf53 9 = .ok (.iload_n 1, 1) := by decide +kernel
theorem dJ9_min_7cf53_10 : decode cJ9_min_7cf53 10 = .ok (.ireturn, 1) := by decide +kernel
abbrev vwCl : List vw_C := [(RX0, TX0, 12), (RX1, TX1, 9), (RX2, TX2, 3), (RX3, TX3, 2), (RX4, TX4, 2), (RX5, TX5, 5), (RX6, TX6, 12)]

