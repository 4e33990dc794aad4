theorem dX6_freeIn_13 : decode cX6_freeIn 13 = .ok (.ifCond .eq 7, 3) := by decide +kernel
theorem dX6_freeIn_16 : decode cX6_freeIn 16 = .ok (.iconst 0, 1) := by decide +kernel
theorem dX6_freeIn_17 : decode cX6_freeIn 17 = .ok (.goto 4, 3) := by decide +kernel
theorem dX6_freeIn_20 : decode cX6_freeIn 20 = .ok (.iconst 1, 1) := by decide +kernel
theorem dX6_freeIn_21 : decode cX6_freeIn 21 = .ok (.invokevirtual 72, 3) := by decide +kernel
theorem dX6_freeIn_24 : decode cX6_freeIn 24 = .ok (.ifCond .eq 12, 3) := by decide +kernel
theorem dX6_freeIn_27 : decode cX6_freeIn 27 = .ok (.aload_n 0, 1) := by decide +kernel
theorem dX6_freeIn_28 : decode cX6_freeIn 28 = .ok (.iload_n 1, 1) := by decide +kernel
theorem dX6_freeIn_29 : decode cX6_freeIn 29 = .ok (.iload_n 2, 1) := by decide +kernel
theorem dX6_freeIn_30 : decode cX6_freeIn 30 = .ok (.invokevirtual 186, 3) := by decide +kernel
theorem dX6_freeIn_33 : decode cX6_freeIn 33 = .ok (.goto 4, 3) := by decide +kernel
theorem dX6_freeIn_36 : decode cX6_freeIn 36 = .ok (.iconst 0, 1) := by decide +kernel
theorem dX6_freeIn_37 : decode cX6_freeIn 37 = .ok (.ireturn, 1) := by decide +kernel
set_option maxRecDepth 20000 in
theorem ggX6_decent_X6_worn : GoodIn wsX6_decent wsX6_worn := goodIn_r _ [6, 7, 8, 9, 5, 10, 1, 15, 16, 17, 18, 19, 20, 21, 22, 23, 24, 25, 26] (by decide +kernel) (by decide +kernel)
set_option maxRecDepth 20000 in
theorem gX6_decent_X6_worn : GoodIn wsX6_decent (wsV RX6 56 RX6 yX6_worn wsX6_worn) := goodIn_app (goodIn_of _ (by decide +kernel)) ggX6_decent_X6_worn
set_option maxRecDepth 20000 in
theorem ggX6_decent_X6_of : GoodIn wsX6_decent wsX6_of := goodIn_r _ [10, 1, 15, 16, 17, 18, 19, 20, 21, 22, 23, 24, 25, 26] (by decide +kernel) (by decide +kernel)
set_option maxRecDepth 20000 in
theorem gX6_decent_X6_of : GoodIn wsX6_decent (wsV RX6 27 RX6 yX6_of wsX6_of) := goodIn_app (goodIn_of _ (by decide +kernel)) ggX6_decent_X6_of
set_option maxRecDepth 20000 in
theorem ggX6_decent_X6_allowed : GoodIn wsX6_decent wsX6_allowed := goodIn_r _ [14, 1, 15, 16, 17, 18, 19, 20, 21, 22, 23, 24, 25, 26] (by decide +kernel) (by decide +kernel)
set_option maxRecDepth 20000 in
theorem gX6_decent_X6_allowed : GoodIn wsX6_decent (wsV RX6 59 RX6 yX6_allowed wsX6_allowed) := goodIn_app (goodIn_of _ (by decide +kernel)) ggX6_decent_X6_allowed
theorem dX6_decent_0 : decode cX6_decent 0 = .ok (.iconst 0, 1) := by decide +kernel
theorem dX6_decent_1 : decode cX6_decent 1 = .ok (.istore_n 1, 1) := by decide +kernel
theorem dX6_decent_2 : decode cX6_decent 2 = .ok (.iconst 0, 1) := by decide +kernel
theorem dX6_decent_3 : decode cX6_decent 3 = .ok (.istore_n 2, 1) := by decide +kernel
theorem dX6_decent_4 : decode cX6_decent 4 = .ok (.iload_n 2, 1) := by decide +kernel
theorem dX6_decent_5 : decode cX6_decent 5 = .ok (.aload_n 0, 1) := by decide +kernel
theorem dX6_decent_6 : decode cX6_decent 6 = .ok (.getfield 7, 3) := by decide +kernel
theorem dX6_decent_9 : decode cX6_decent 9 = .ok (.iconst 1, 1) := by decide +kernel
theorem dX6_decent_10 : decode cX6_decent 10 = .ok (.iaload, 1) := by decide +kernel
theorem dX6_decent_11 : decode cX6_decent 11 = .ok (.if_icmp .ge 42, 3) := by decide +kernel
theorem dX6_decent_14 : decode cX6_decent 14 = .ok (.iload_n 1, 1) := by decide +kernel
theorem dX6_decent_15 : decode cX6_decent 15 = .ok (.aload_n 0, 1) := by decide +kernel
theorem dX6_decent_16 : decode cX6_decent 16 = .ok (.iload_n 2, 1) := by decide +kernel
theorem dX6_decent_17 : decode cX6_decent 17 = .ok (.invokevirtual 56, 3) := by decide +kernel
theorem dX6_decent_20 : decode cX6_decent 20 = .ok (.aload_n 0, 1) := by decide +kernel
theorem dX6_decent_21 : decode cX6_decent 21 = .ok (.iconst 0, 1) := by decide +kernel
theorem dX6_decent_22 : decode cX6_decent 22 = .ok (.aload_n 0, 1) := by decide +kernel
theorem dX6_decent_23 : decode cX6_decent 23 = .ok (.iload_n 2, 1) := by decide +kernel
theorem dX6_decent_24 : decode cX6_decent 24 = .ok (.iconst 0, 1) := by decide +kernel
theorem dX6_decent_25 : decode cX6_decent 25 = .ok (.invokevirtual 27, 3) := by decide +kernel
theorem dX6_decent_28 : decode cX6_decent 28 = .ok (.aload_n 0, 1) := by decide +kernel
theorem dX6_decent_29 : decode cX6_decent 29 = .ok (.getfield 7, 3) := by decide +kernel
theorem dX6_decent_32 : decode cX6_decent 32 = .ok (.iconst 0, 1) := by decide +kernel
theorem dX6_decent_33 : decode cX6_decent 33 = .ok (.iaload, 1) := by decide +kernel
theorem dX6_decent_34 : decode cX6_decent 34 = .ok (.invokevirtual 59, 3) := by decide +kernel
theorem dX6_decent_37 : decode cX6_decent 37 = .ok (.if_icmp .gt 7, 3) := by decide +kernel
theorem dX6_decent_40 : decode cX6_decent 40 = .ok (.iconst 1, 1) := by decide +kernel
theorem dX6_decent_41 : decode cX6_decent 41 = .ok (.goto 4, 3) := by decide +kernel
theorem dX6_decent_44 : decode cX6_decent 44 = .ok (.iconst 0, 1) := by decide +kernel
theorem dX6_decent_45 : decode cX6_decent 45 = .ok (.iadd, 1) := by decide +kernel
theorem dX6_decent_46 : decode cX6_decent 46 = .ok (.istore_n 1, 1) := by decide +kernel
theorem dX6_decent_47 : decode cX6_decent 47 = .ok (.iinc 2 1, 3) := by decide +kernel
theorem dX6_decent_50 : decode cX6_decent 50 = .ok (.goto (-46), 3) := by decide +kernel
theorem dX6_decent_53 : decode cX6_decent 53 = .ok (.aload_n 0, 1) := by decide +kernel
theorem dX6_decent_54 : decode cX6_decent 54 = .ok (.getfield 7, 3) := by decide +kernel
theorem dX6_decent_57 : decode cX6_decent 57 = .ok (.iconst 1, 1) := by decide +kernel
theorem dX6_decent_58 : decode cX6_decent 58 = .ok (.iaload, 1) := by decide +kernel
theorem dX6_decent_59 : decode cX6_decent 59 = .ok (.ifCond .ne 7, 3) := by decide +kernel
theorem dX6_decent_62 : decode cX6_decent 62 = .ok (.dconst 1, 1) := by decide +kernel
theorem dX6_decent_63 : decode cX6_decent 63 = .ok (.goto 13, 3) := by decide +kernel
theorem dX6_decent_66 : decode cX6_decent 66 = .ok (.iload_n 1, 1) := by decide +kernel
theorem dX6_decent_67 : decode cX6_decent 67 = .ok (.i2d, 1) := by decide +kernel
theorem dX6_decent_68 : decode cX6_decent 68 = .ok (.aload_n 0, 1) := by decide +kernel
theorem dX6_decent_69 : decode cX6_decent 69 = .ok (.getfield 7, 3) := by decide +kernel
theorem dX6_decent_72 : decode cX6_decent 72 = .ok (.iconst 1, 1) := by decide +kernel
theorem dX6_decent_73 : decode cX6_decent 73 = .ok (.iaload, 1) := by decide +kernel
theorem dX6_decent_74 : decode cX6_decent 74 = .ok (.i2d, 1) := by decide +kernel
theorem dX6_decent_75 : decode cX6_decent 75 = .ok (.ddiv, 1) := by decide +kernel
theorem dX6_decent_76 : decode cX6_decent 76 = .ok (.dreturn, 1) := by decide +kernel
set_option maxRecDepth 20000 in
theorem ggX6_decentShare_X6_decent : GoodIn wsX6_decentShare wsX6_decent := goodIn_r _ [6, 7, 8, 9, 10, 5, 11, 12, 13, 14, 15, 16, 17, 18, 19, 20, 21, 22, 23, 24, 25, 26, 27, 28, 29, 30, 31] (by decide +kernel) (by decide +kernel)
set_option maxRecDepth 20000 in
theorem gX6_decentShare_X6_decent : GoodIn wsX6_decentShare (wsV RX6 189 RX6 yX6_decent wsX6_decent) := goodIn_app (goodIn_of _ (by decide +kernel)) ggX6_decentShare_X6_decent
theorem dX6_decentShare_0 : decode cX6_decentShare 0 = .ok (.aload_n 0, 1) := by decide +kernel
theorem dX6_decentShare_1 : decode cX6_decentShare 1 = .ok (.iconst 0, 1) := by decide +kernel
theorem dX6_decentShare_2 : decode cX6_decentShare 2 = .ok (.putfield 19, 3) := by decide +kernel
theorem dX6_decentShare_5 : decode cX6_decentShare 5 = .ok (.aload_n 0, 1) := by decide +kernel
theorem dX6_decentShare_6 : decode cX6_decentShare 6 = .ok (.invokevirtual 189, 3) := by decide +kernel
theorem dX6_decentShare_9 : decode cX6_decentShare 9 = .ok (.dreturn, 1) := by decide +kernel
theorem dX6_mix_0 : decode cX6_mix 0 = .ok (.aload_n 0, 1) := by decide +kernel
theorem dX6_mix_1 : decode cX6_mix 1 = .ok (.ldc2_w 193, 3) := by decide +kernel
theorem dX6_mix_4 : decode cX6_mix 4 = .ok (.aload_n 0, 1) := by decide +kernel
theorem dX6_mix_5 : decode cX6_mix 5 = .ok (.getfield 195, 3) := by decide +kernel
theorem dX6_mix_8 : decode cX6_mix 8 = .ok (.lmul, 1) := by decide +kernel
theorem dX6_mix_9 : decode cX6_mix 9 = .ok (.lload_n 1, 1) := by decide +kernel
theorem dX6_mix_10 : decode cX6_mix 10 = .ok (.ladd, 1) := by decide +kernel
theorem dX6_mix_11 : decode cX6_mix 11 = .ok (.putfield 195, 3) := by decide +kernel
theorem dX6_mix_14 : decode cX6_mix 14 = .ok (.return_, 1) := by decide +kernel
theorem dX6_bits_0 : decode cX6_bits 0 = .ok (.dload_n 0, 1) := by decide +kernel
theorem dX6_bits_1 : decode cX6_bits 1 = .ok (.dconst 0, 1) := by decide +kernel
theorem dX6_bits_2 : decode cX6_bits 2 = .ok (.dcmp .l, 1) := by decide +kernel
theorem dX6_bits_3 : decode cX6_bits 3 = .ok (.ifCond .ne 5, 3) := by decide +kernel
theorem dX6_bits_6 : decode cX6_bits 6 = .ok (.lconst 0, 1) := by decide +kernel
theorem dX6_bits_7 : decode cX6_bits 7 = .ok (.lreturn, 1) := by decide +kernel
theorem dX6_bits_8 : decode cX6_bits 8 = .ok (.dload_n 0, 1) := by decide +kernel
theorem dX6_bits_9 : decode cX6_bits 9 = .ok (.dstore_n 2, 1) := by decide +kernel
theorem dX6_bits_10 : decode cX6_bits 10 = .ok (.ldc2_w 199, 3) := by decide +kernel
theorem dX6_bits_13 : decode cX6_bits 13 = .ok (.lstore 4, 2) := by decide +kernel
theorem dX6_bits_15 : decode cX6_bits 15 = .ok (.dload_n 2, 1) := by decide +kernel
theorem dX6_bits_16 : decode cX6_bits 16 = .ok (.dconst 1, 1) := by decide +kernel
theorem dX6_bits_17 : decode cX6_bits 17 = .ok (.dcmp .g, 1) := by decide +kernel
theorem dX6_bits_18 : decode cX6_bits 18 = .ok (.ifCond .ge 18, 3) := by decide +kernel
theorem dX6_bits_21 : decode cX6_bits 21 = .ok (.dload_n 2, 1) := by decide +kernel
theorem dX6_bits_22 : decode cX6_bits 22 = .ok (.ldc2_w 201, 3) := by decide +kernel
theorem dX6_bits_25 : decode cX6_bits 25 = .ok (.dmul, 1) := by decide +kernel
theorem dX6_bits_26 : decode cX6_bits 26 = .ok (.dstore_n 2, 1) := by decide +kernel
theorem dX6_bits_27 : decode cX6_bits 27 = .ok (.lload 4, 2) := by decide +kernel
theorem dX6_bits_29 : decode cX6_bits 29 = .ok (.lconst 1, 1) := by decide +kernel
theorem dX6_bits_30 : decode cX6_bits 30 = .ok (.lsub, 1) := by decide +kernel
theorem dX6_bits_31 : decode cX6_bits 31 = .ok (.lstore 4, 2) := by decide +kernel
theorem dX6_bits_33 : decode cX6_bits 33 = .ok (.goto (-18), 3) := by decide +kernel
theorem dX6_bits_36 : decode cX6_bits 36 = .ok (.lload 4, 2) := by decide +kernel
theorem dX6_bits_38 : decode cX6_bits 38 = .ok (.ldc2_w 203, 3) := by decide +kernel
theorem dX6_bits_41 : decode cX6_bits 41 = .ok (.lmul, 1) := by decide +kernel
theorem dX6_bits_42 : decode cX6_bits 42 = .ok (.dload_n 2, 1) := by decide +kernel
theorem dX6_bits_43 : decode cX6_bits 43 = .ok (.dconst 1, 1) := by decide +kernel
theorem dX6_bits_44 : decode cX6_bits 44 = .ok (.dsub, 1) := by decide +kernel
theorem dX6_bits_45 : decode cX6_bits 45 = .ok (.ldc2_w 205, 3) := by decide +kernel
theorem dX6_bits_48 : decode cX6_bits 48 = .ok (.dmul, 1) := by decide +kernel
theorem dX6_bits_49 : decode cX6_bits 49 = .ok (.d2l, 1) := by decide +kernel
theorem dX6_bits_50 : decode cX6_bits 50 = .ok (.ladd, 1) := by decide +kernel
theorem dX6_bits_51 : decode cX6_bits 51 = .ok (.lreturn, 1) := by decide +kernel
set_option maxRecDepth 20000 in
theorem ggX6_mixGuest_X6_ofGuest : GoodIn wsX6_mixGuest wsX6_ofGuest := goodIn_r _ [5, 6, 7, 8, 4, 9, 10, 11, 12, 13, 14, 15, 16, 17, 18, 19, 20, 21, 22, 23, 24, 25, 26, 27, 28, 29, 30, 73, 74, 75, 76, 77, 78, 79, 80, 81, 82, 83, 84] (by decide +kernel) (by decide +kernel)
set_option maxRecDepth 20000 in
theorem gX6_mixGuest_X6_ofGuest : GoodIn wsX6_mixGuest (wsV RX6 165 RX6 yX6_ofGuest wsX6_ofGuest) := goodIn_app (goodIn_of _ (by decide +kernel)) ggX6_mixGuest_X6_ofGuest
set_option maxRecDepth 20000 in
theorem ggX6_mixGuest_X6_mix : GoodIn wsX6_mixGuest wsX6_mix := goodIn_r _ [34, 35, 36, 73, 74, 75, 76, 77, 78, 79, 80, 81, 82, 83, 84] (by decide +kernel) (by decide +kernel)
set_option maxRecDepth 20000 in
theorem gX6_mixGuest_X6_mix : GoodIn wsX6_mixGuest (wsV RX6 207 RX6 yX6_mix wsX6_mix) := goodIn_app (goodIn_of _ (by decide +kernel)) ggX6_mixGuest_X6_mix
set_option maxRecDepth 20000 in
theorem ggX6_mixGuest_X6_whyNoMask : GoodIn wsX6_mixGuest wsX6_whyNoMask := goodIn_r _ [40, 23, 24, 25, 4, 26, 14, 73, 74, 75, 76, 77, 78, 79, 80, 81, 82, 83, 84] (by decide +kernel) (by decide +kernel)
set_option maxRecDepth 20000 in
theorem gX6_mixGuest_X6_whyNoMask : GoodIn wsX6_mixGuest (wsV RX6 93 RX6 yX6_whyNoMask wsX6_whyNoMask) := goodIn_app (goodIn_of _ (by decide +kernel)) ggX6_mixGuest_X6_whyNoMask
set_option maxRecDepth 20000 in
theorem ggX6_mixGuest_X6_whyNoLine : GoodIn wsX6_mixGuest wsX6_whyNoLine := goodIn_r _ [44, 14, 23, 24, 25, 4, 26, 6, 7, 8, 9, 10, 11, 12, 13, 15, 16, 17, 18, 73, 74, 75, 76, 77, 78, 79, 80, 81, 82, 83, 84] (by decide +kernel) (by decide +kernel)
set_option maxRecDepth 20000 in
theorem gX6_mixGuest_X6_whyNoLine : GoodIn wsX6_mixGuest (wsV RX6 105 RX6 yX6_whyNoLine wsX6_whyNoLine) := goodIn_app (goodIn_of _ (by decide +kernel)) ggX6_mixGuest_X6_whyNoLine
set_option maxRecDepth 20000 in
theorem ggX6_mixGuest_X6_best : GoodIn wsX6_mixGuest wsX6_best := goodIn_r _ [48, 49, 50, 51, 4, 52, 53, 54, 55, 56, 57, 14, 23, 24, 25, 26, 19, 20, 21, 22, 58, 59, 60, 61, 62, 63, 64, 65, 66, 67, 68, 10, 11, 12, 13, 73, 74, 75, 76, 77, 78, 79, 80, 81, 82, 83, 84] (by decide +kernel) (by decide +kernel)
set_option maxRecDepth 20000 in
theorem gX6_mixGuest_X6_best : GoodIn wsX6_mixGuest (wsV RX6 183 RX6 yX6_best wsX6_best) := goodIn_app (goodIn_of _ (by decide +kernel)) ggX6_mixGuest_X6_best
set_option maxRecDepth 20000 in
theorem ggX6_mixGuest_X6_wouldBring : GoodIn wsX6_mixGuest wsX6_wouldBring := goodIn_r _ [52, 53, 54, 55, 56, 4, 57, 14, 23, 24, 25, 26, 19, 20, 21, 22, 58, 59, 60, 61, 62, 63, 64, 65, 66, 67, 68, 73, 74, 75, 76, 77, 78, 79, 80, 81, 82, 83, 84] (by decide +kernel) (by decide +kernel)
set_option maxRecDepth 20000 in
theorem gX6_mixGuest_X6_wouldBring : GoodIn wsX6_mixGuest (wsV RX6 180 RX6 yX6_wouldBring wsX6_wouldBring) := goodIn_app (goodIn_of _ (by decide +kernel)) ggX6_mixGuest_X6_wouldBring
set_option maxRecDepth 20000 in
theorem ggX6_mixGuest_X6_free : GoodIn wsX6_mixGuest wsX6_free := goodIn_r _ [72, 14, 19, 20, 21, 4, 22, 23, 24, 25, 26, 58, 59, 60, 61, 73, 74, 75, 76, 77, 78, 79, 80, 81, 82, 83, 84] (by decide +kernel) (by decide +kernel)
set_option maxRecDepth 20000 in
theorem gX6_mixGuest_X6_free : GoodIn wsX6_mixGuest (wsV RX6 186 RX6 yX6_free wsX6_free) := goodIn_app (goodIn_of _ (by decide +kernel)) ggX6_mixGuest_X6_free
theorem dX6_mixGuest_0 : decode cX6_mixGuest 0 = .ok (.iconst 0, 1) := by decide +kernel
theorem dX6_mixGuest_1 : decode cX6_mixGuest 1 = .ok (.istore_n 2, 1) := by decide +kernel
theorem dX6_mixGuest_2 : decode cX6_mixGuest 2 = .ok (.iload_n 2, 1) := by decide +kernel
theorem dX6_mixGuest_3 : decode cX6_mixGuest 3 = .ok (.bipush 11, 2) := by decide +kernel
theorem dX6_mixGuest_5 : decode cX6_mixGuest 5 = .ok (.if_icmp .ge 20, 3) := by decide +kernel
theorem dX6_mixGuest_8 : decode cX6_mixGuest 8 = .ok (.aload_n 0, 1) := by decide +kernel
theorem dX6_mixGuest_9 : decode cX6_mixGuest 9 = .ok (.aload_n 0, 1) := by decide +kernel
theorem dX6_mixGuest_10 : decode cX6_mixGuest 10 = .ok (.iload_n 1, 1) := by decide +kernel
theorem dX6_mixGuest_11 : decode cX6_mixGuest 11 = .ok (.iload_n 2, 1) := by decide +kernel
theorem dX6_mixGuest_12 : decode cX6_mixGuest 12 = .ok (.invokevirtual 165, 3) := by decide +kernel
theorem dX6_mixGuest_15 : decode cX6_mixGuest 15 = .ok (.i2l, 1) := by decide +kernel
theorem dX6_mixGuest_16 : decode cX6_mixGuest 16 = .ok (.invokevirtual 207, 3) := by decide +kernel
theorem dX6_mixGuest_19 : decode cX6_mixGuest 19 = .ok (.iinc 2 1, 3) := by decide +kernel
theorem dX6_mixGuest_22 : decode cX6_mixGuest 22 = .ok (.goto (-20), 3) := by decide +kernel
theorem dX6_mixGuest_25 : decode cX6_mixGuest 25 = .ok (.aload_n 0, 1) := by decide +kernel
theorem dX6_mixGuest_26 : decode cX6_mixGuest 26 = .ok (.aload_n 0, 1) := by decide +kernel
theorem dX6_mixGuest_27 : decode cX6_mixGuest 27 = .ok (.iload_n 1, 1) := by decide +kernel
theorem dX6_mixGuest_28 : decode cX6_mixGuest 28 = .ok (.invokevirtual 93, 3) := by decide +kernel
theorem dX6_mixGuest_31 : decode cX6_mixGuest 31 = .ok (.i2l, 1) := by decide +kernel
theorem dX6_mixGuest_32 : decode cX6_mixGuest 32 = .ok (.invokevirtual 207, 3) := by decide +kernel
theorem dX6_mixGuest_35 : decode cX6_mixGuest 35 = .ok (.aload_n 0, 1) := by decide +kernel
theorem dX6_mixGuest_36 : decode cX6_mixGuest 36 = .ok (.aload_n 0, 1) := by decide +kernel
theorem dX6_mixGuest_37 : decode cX6_mixGuest 37 = .ok (.iload_n 1, 1) := by decide +kernel
theorem dX6_mixGuest_38 : decode cX6_mixGuest 38 = .ok (.invokevirtual 105, 3) := by decide +kernel
theorem dX6_mixGuest_41 : decode cX6_mixGuest 41 = .ok (.i2l, 1) := by decide +kernel
theorem dX6_mixGuest_42 : decode cX6_mixGuest 42 = .ok (.invokevirtual 207, 3) := by decide +kernel
theorem dX6_mixGuest_45 : decode cX6_mixGuest 45 = .ok (.aload_n 0, 1) := by decide +kernel
theorem dX6_mixGuest_46 : decode cX6_mixGuest 46 = .ok (.aload_n 0, 1) := by decide +kernel
theorem dX6_mixGuest_47 : decode cX6_mixGuest 47 = .ok (.iload_n 1, 1) := by decide +kernel
theorem dX6_mixGuest_48 : decode cX6_mixGuest 48 = .ok (.invokevirtual 183, 3) := by decide +kernel
theorem dX6_mixGuest_51 : decode cX6_mixGuest 51 = .ok (.i2l, 1) := by decide +kernel
theorem dX6_mixGuest_52 : decode cX6_mixGuest 52 = .ok (.invokevirtual 207, 3) := by decide +kernel
theorem dX6_mixGuest_55 : decode cX6_mixGuest 55 = .ok (.iconst 0, 1) := by decide +kernel
theorem dX6_mixGuest_56 : decode cX6_mixGuest 56 = .ok (.istore_n 2, 1) := by decide +kernel
theorem dX6_mixGuest_57 : decode cX6_mixGuest 57 = .ok (.iload_n 2, 1) := by decide +kernel
theorem dX6_mixGuest_58 : decode cX6_mixGuest 58 = .ok (.iconst 3, 1) := by decide +kernel
theorem dX6_mixGuest_59 : decode cX6_mixGuest 59 = .ok (.if_icmp .ge 45, 3) := by decide +kernel
theorem dX6_mixGuest_62 : decode cX6_mixGuest 62 = .ok (.iconst 0, 1) := by decide +kernel
theorem dX6_mixGuest_63 : decode cX6_mixGuest 63 = .ok (.istore_n 3, 1) := by decide +kernel
theorem dX6_mixGuest_64 : decode cX6_mixGuest 64 = .ok (.iload_n 3, 1) := by decide +kernel
theorem dX6_mixGuest_65 : decode cX6_mixGuest 65 = .ok (.iconst 4, 1) := by decide +kernel
theorem dX6_mixGuest_66 : decode cX6_mixGuest 66 = .ok (.if_icmp .ge 21, 3) := by decide +kernel
theorem dX6_mixGuest_69 : decode cX6_mixGuest 69 = .ok (.aload_n 0, 1) := by decide +kernel
theorem dX6_mixGuest_70 : decode cX6_mixGuest 70 = .ok (.aload_n 0, 1) := by decide +kernel
theorem dX6_mixGuest_71 : decode cX6_mixGuest 71 = .ok (.iload_n 1, 1) := by decide +kernel
theorem dX6_mixGuest_72 : decode cX6_mixGuest 72 = .ok (.iload_n 2, 1) := by decide +kernel
theorem dX6_mixGuest_73 : decode cX6_mixGuest 73 = .ok (.iload_n 3, 1) := by decide +kernel
theorem dX6_mixGuest_74 : decode cX6_mixGuest 74 = .ok (.invokevirtual 180, 3) := by decide +kernel
theorem dX6_mixGuest_77 : decode cX6_mixGuest 77 = .ok (.i2l, 1) := by decide +kernel
theorem dX6_mixGuest_78 : decode cX6_mixGuest 78 = .ok (.invokevirtual 207, 3) := by decide +kernel
theorem dX6_mixGuest_81 : decode cX6_mixGuest 81 = .ok (.iinc 3 1, 3) := by decide +kernel
theorem dX6_mixGuest_84 : decode cX6_mixGuest 84 = .ok (.goto (-20), 3) := by decide +kernel
theorem dX6_mixGuest_87 : decode cX6_mixGuest 87 = .ok (.aload_n 0, 1) := by decide +kernel
theorem dX6_mixGuest_88 : decode cX6_mixGuest 88 = .ok (.aload_n 0, 1) := by decide +kernel
theorem dX6_mixGuest_89 : decode cX6_mixGuest 89 = .ok (.iload_n 1, 1) := by decide +kernel
theorem dX6_mixGuest_90 : decode cX6_mixGuest 90 = .ok (.iload_n 2, 1) := by decide +kernel
theorem dX6_mixGuest_91 : decode cX6_mixGuest 91 = .ok (.invokevirtual 186, 3) := by decide +kernel
theorem dX6_mixGuest_94 : decode cX6_mixGuest 94 = .ok (.i2l, 1) := by decide +kernel
theorem dX6_mixGuest_95 : decode cX6_mixGuest 95 = .ok (.invokevirtual 207, 3) := by decide +kernel
theorem dX6_mixGuest_98 : decode cX6_mixGuest 98 = .ok (.iinc 2 1, 3) := by decide +kernel
theorem dX6_mixGuest_101 : decode cX6_mixGuest 101 = .ok (.goto (-44), 3) := by decide +kernel
theorem dX6_mixGuest_104 : decode cX6_mixGuest 104 = .ok (.return_, 1) := by decide +kernel
set_option maxRecDepth 20000 in
theorem ggX6_digest_X6_counted : GoodIn wsX6_digest wsX6_counted := goodIn_r _ [11, 4, 12, 13, 14, 15, 10, 16, 17, 18, 19, 20, 21, 22, 23, 24, 25, 26, 27, 28, 29, 30, 31, 32, 109, 110, 111, 112, 113, 114, 115, 116, 117, 118, 119, 120] (by decide +kernel) (by decide +kernel)
set_option maxRecDepth 20000 in
theorem gX6_digest_X6_counted : GoodIn wsX6_digest (wsV RX6 177 RX6 yX6_counted wsX6_counted) := goodIn_app (goodIn_of _ (by decide +kernel)) ggX6_digest_X6_counted
set_option maxRecDepth 20000 in
theorem ggX6_digest_X6_mix : GoodIn wsX6_digest wsX6_mix := goodIn_r _ [36, 37, 3, 109, 110, 111, 112, 113, 114, 115, 116, 117, 118, 119, 120] (by decide +kernel) (by decide +kernel)
set_option maxRecDepth 20000 in
theorem gX6_digest_X6_mix : GoodIn wsX6_digest (wsV RX6 207 RX6 yX6_mix wsX6_mix) := goodIn_app (goodIn_of _ (by decide +kernel)) ggX6_digest_X6_mix
set_option maxRecDepth 20000 in
theorem ggX6_digest_X6_mixGuest : GoodIn wsX6_digest wsX6_mixGuest := goodIn_r _ [41, 42, 43, 44, 10, 45, 46, 47, 48, 49, 21, 22, 23, 24, 4, 50, 51, 52, 53, 54, 55, 56, 57, 17, 18, 19, 20, 58, 59, 60, 61, 33, 34, 35, 36, 37, 3, 62, 63, 64, 65, 66, 67, 68, 69, 70, 71, 72, 73, 74, 75, 76, 77, 78, 79, 80, 81, 82, 83, 84, 85, 86, 87, 88, 89, 90, 91, 92, 93, 94, 95, 96, 97, 109, 110, 111, 112, 113, 114, 115, 116, 117, 118, 119, 120] (by decide +kernel) (by decide +kernel)
set_option maxRecDepth 20000 in
theorem gX6_digest_X6_mixGuest : GoodIn wsX6_digest (wsV RX6 213 RX6 yX6_mixGuest wsX6_mixGuest) := goodIn_app (goodIn_of _ (by decide +kernel)) ggX6_digest_X6_mixGuest
set_option maxRecDepth 20000 in
theorem ggX6_digest_X6_lineLength : GoodIn wsX6_digest wsX6_lineLength := goodIn_r _ [24, 4, 109, 110, 111, 112, 113, 114, 115, 116, 117, 118, 119, 120] (by decide +kernel) (by decide +kernel)
set_option maxRecDepth 20000 in
theorem gX6_digest_X6_lineLength : GoodIn wsX6_digest (wsV RX6 39 RX6 yX6_lineLength wsX6_lineLength) := goodIn_app (goodIn_of _ (by decide +kernel)) ggX6_digest_X6_lineLength
set_option maxRecDepth 20000 in
theorem ggX6_digest_X6_allowed : GoodIn wsX6_digest wsX6_allowed := goodIn_r _ [86, 4, 109, 110, 111, 112, 113, 114, 115, 116, 117, 118, 119, 120] (by decide +kernel) (by decide +kernel)
set_option maxRecDepth 20000 in
theorem gX6_digest_X6_allowed : GoodIn wsX6_digest (wsV RX6 59 RX6 yX6_allowed wsX6_allowed) := goodIn_app (goodIn_of _ (by decide +kernel)) ggX6_digest_X6_allowed
set_option maxRecDepth 20000 in
theorem ggX6_digest_X6_inLine : GoodIn wsX6_digest wsX6_inLine := goodIn_r _ [53, 4, 109, 110, 111, 112, 113, 114, 115, 116, 117, 118, 119, 120] (by decide +kernel) (by decide +kernel)
set_option maxRecDepth 20000 in
theorem gX6_digest_X6_inLine : GoodIn wsX6_digest (wsV RX6 43 RX6 yX6_inLine wsX6_inLine) := goodIn_app (goodIn_of _ (by decide +kernel)) ggX6_digest_X6_inLine
set_option maxRecDepth 20000 in
theorem ggX6_digest_X6_decent : GoodIn wsX6_digest wsX6_decent := goodIn_r _ [101, 4, 54, 55, 56, 10, 57, 17, 18, 19, 20, 83, 84, 85, 86, 109, 110, 111, 112, 113, 114, 115, 116, 117, 118, 119, 120] (by decide +kernel) (by decide +kernel)
set_option maxRecDepth 20000 in
theorem gX6_digest_X6_decent : GoodIn wsX6_digest (wsV RX6 189 RX6 yX6_decent wsX6_decent) := goodIn_app (goodIn_of _ (by decide +kernel)) ggX6_digest_X6_decent
set_option maxRecDepth 20000 in
theorem ggX6_digest_X6_bits : GoodIn wsX6_digest wsX6_bits := goodIn_r _ [104, 105, 106, 107, 108] (by decide +kernel) (by decide +kernel)
set_option maxRecDepth 20000 in
theorem gX6_digest_X6_bits : GoodIn wsX6_digest (va_wsS RX6 217 yX6_bits wsX6_bits) := goodIn_app (goodIn_of _ (by decide +kernel)) ggX6_digest_X6_bits
theorem dX6_digest_0 : decode cX6_digest 0 = .ok (.aload_n 0, 1) := by decide +kernel
theorem dX6_digest_1 : decode cX6_digest 1 = .ok (.iconst 0, 1) := by decide +kernel
theorem dX6_digest_2 : decode cX6_digest 2 = .ok (.putfield 19, 3) := by decide +kernel
theorem dX6_digest_5 : decode cX6_digest 5 = .ok (.aload_n 0, 1) := by decide +kernel
theorem dX6_digest_6 : decode cX6_digest 6 = .ok (.ldc2_w 211, 3) := by decide +kernel
theorem dX6_digest_9 : decode cX6_digest 9 = .ok (.putfield 195, 3) := by decide +kernel
theorem dX6_digest_12 : decode cX6_digest 12 = .ok (.iconst 0, 1) := by decide +kernel
theorem dX6_digest_13 : decode cX6_digest 13 = .ok (.istore_n 1, 1) := by decide +kernel
theorem dX6_digest_14 : decode cX6_digest 14 = .ok (.iload_n 1, 1) := by decide +kernel
theorem dX6_digest_15 : decode cX6_digest 15 = .ok (.bipush 22, 2) := by decide +kernel
theorem dX6_digest_17 : decode cX6_digest 17 = .ok (.if_icmp .ge 19, 3) := by decide +kernel
theorem dX6_digest_20 : decode cX6_digest 20 = .ok (.aload_n 0, 1) := by decide +kernel
theorem dX6_digest_21 : decode cX6_digest 21 = .ok (.aload_n 0, 1) := by decide +kernel
theorem dX6_digest_22 : decode cX6_digest 22 = .ok (.iload_n 1, 1) := by decide +kernel
theorem dX6_digest_23 : decode cX6_digest 23 = .ok (.invokevirtual 177, 3) := by decide +kernel
theorem dX6_digest_26 : decode cX6_digest 26 = .ok (.i2l, 1) := by decide +kernel
theorem dX6_digest_27 : decode cX6_digest 27 = .ok (.invokevirtual 207, 3) := by decide +kernel
theorem dX6_digest_30 : decode cX6_digest 30 = .ok (.iinc 1 1, 3) := by decide +kernel
theorem dX6_digest_33 : decode cX6_digest 33 = .ok (.goto (-19), 3) := by decide +kernel
theorem dX6_digest_36 : decode cX6_digest 36 = .ok (.iconst 0, 1) := by decide +kernel
theorem dX6_digest_37 : decode cX6_digest 37 = .ok (.istore_n 1, 1) := by decide +kernel
theorem dX6_digest_38 : decode cX6_digest 38 = .ok (.iload_n 1, 1) := by decide +kernel
theorem dX6_digest_39 : decode cX6_digest 39 = .ok (.aload_n 0, 1) := by decide +kernel
theorem dX6_digest_40 : decode cX6_digest 40 = .ok (.getfield 7, 3) := by decide +kernel
theorem dX6_digest_43 : decode cX6_digest 43 = .ok (.iconst 1, 1) := by decide +kernel
theorem dX6_digest_44 : decode cX6_digest 44 = .ok (.iaload, 1) := by decide +kernel
theorem dX6_digest_45 : decode cX6_digest 45 = .ok (.if_icmp .ge 14, 3) := by decide +kernel
theorem dX6_digest_48 : decode cX6_digest 48 = .ok (.aload_n 0, 1) := by decide +kernel
theorem dX6_digest_49 : decode cX6_digest 49 = .ok (.iload_n 1, 1) := by decide +kernel
theorem dX6_digest_50 : decode cX6_digest 50 = .ok (.invokevirtual 213, 3) := by decide +kernel
theorem dX6_digest_53 : decode cX6_digest 53 = .ok (.iinc 1 1, 3) := by decide +kernel
theorem dX6_digest_56 : decode cX6_digest 56 = .ok (.goto (-18), 3) := by decide +kernel
theorem dX6_digest_59 : decode cX6_digest 59 = .ok (.iconst 0, 1) := by decide +kernel
theorem dX6_digest_60 : decode cX6_digest 60 = .ok (.istore_n 1, 1) := by decide +kernel
theorem dX6_digest_61 : decode cX6_digest 61 = .ok (.iload_n 1, 1) := by decide +kernel
theorem dX6_digest_62 : decode cX6_digest 62 = .ok (.iconst 3, 1) := by decide +kernel
theorem dX6_digest_63 : decode cX6_digest 63 = .ok (.if_icmp .ge 77, 3) := by decide +kernel
theorem dX6_digest_66 : decode cX6_digest 66 = .ok (.aload_n 0, 1) := by decide +kernel
theorem dX6_digest_67 : decode cX6_digest 67 = .ok (.aload_n 0, 1) := by decide +kernel
theorem dX6_digest_68 : decode cX6_digest 68 = .ok (.iload_n 1, 1) := by decide +kernel
theorem dX6_digest_69 : decode cX6_digest 69 = .ok (.invokevirtual 39, 3) := by decide +kernel
theorem dX6_digest_72 : decode cX6_digest 72 = .ok (.i2l, 1) := by decide +kernel
theorem dX6_digest_73 : decode cX6_digest 73 = .ok (.invokevirtual 207, 3) := by decide +kernel
theorem dX6_digest_76 : decode cX6_digest 76 = .ok (.iconst 0, 1) := by decide +kernel
theorem dX6_digest_77 : decode cX6_digest 77 = .ok (.istore_n 2, 1) := by decide +kernel
theorem dX6_digest_78 : decode cX6_digest 78 = .ok (.iload_n 2, 1) := by decide +kernel
theorem dX6_digest_79 : decode cX6_digest 79 = .ok (.iconst 5, 1) := by decide +kernel
theorem dX6_digest_80 : decode cX6_digest 80 = .ok (.if_icmp .ge 26, 3) := by decide +kernel
theorem dX6_digest_83 : decode cX6_digest 83 = .ok (.aload_n 0, 1) := by decide +kernel
theorem dX6_digest_84 : decode cX6_digest 84 = .ok (.aload_n 0, 1) := by decide +kernel
theorem dX6_digest_85 : decode cX6_digest 85 = .ok (.iload_n 1, 1) := by decide +kernel
theorem dX6_digest_86 : decode cX6_digest 86 = .ok (.iload_n 2, 1) := by decide +kernel
theorem dX6_digest_87 : decode cX6_digest 87 = .ok (.aload_n 0, 1) := by decide +kernel
theorem dX6_digest_88 : decode cX6_digest 88 = .ok (.getfield 7, 3) := by decide +kernel
theorem dX6_digest_91 : decode cX6_digest 91 = .ok (.iconst 0, 1) := by decide +kernel
theorem dX6_digest_92 : decode cX6_digest 92 = .ok (.iaload, 1) := by decide +kernel
theorem dX6_digest_93 : decode cX6_digest 93 = .ok (.invokevirtual 59, 3) := by decide +kernel
theorem dX6_digest_96 : decode cX6_digest 96 = .ok (.i2l, 1) := by decide +kernel
theorem dX6_digest_97 : decode cX6_digest 97 = .ok (.invokevirtual 207, 3) := by decide +kernel
theorem dX6_digest_100 : decode cX6_digest 100 = .ok (.iinc 2 1, 3) := by decide +kernel
theorem dX6_digest_103 : decode cX6_digest 103 = .ok (.goto (-25), 3) := by decide +kernel
theorem dX6_digest_106 : decode cX6_digest 106 = .ok (.iconst 0, 1) := by decide +kernel
theorem dX6_digest_107 : decode cX6_digest 107 = .ok (.istore_n 2, 1) := by decide +kernel
theorem dX6_digest_108 : decode cX6_digest 108 = .ok (.iload_n 2, 1) := by decide +kernel
theorem dX6_digest_109 : decode cX6_digest 109 = .ok (.aload_n 0, 1) := by decide +kernel
theorem dX6_digest_110 : decode cX6_digest 110 = .ok (.iload_n 1, 1) := by decide +kernel
theorem dX6_digest_111 : decode cX6_digest 111 = .ok (.invokevirtual 39, 3) := by decide +kernel
theorem dX6_digest_114 : decode cX6_digest 114 = .ok (.if_icmp .ge 20, 3) := by decide +kernel
theorem dX6_digest_117 : decode cX6_digest 117 = .ok (.aload_n 0, 1) := by decide +kernel
theorem dX6_digest_118 : decode cX6_digest 118 = .ok (.aload_n 0, 1) := by decide +kernel
theorem dX6_digest_119 : decode cX6_digest 119 = .ok (.iload_n 1, 1) := by decide +kernel
theorem dX6_digest_120 : decode cX6_digest 120 = .ok (.iload_n 2, 1) := by decide +kernel
theorem dX6_digest_121 : decode cX6_digest 121 = .ok (.invokevirtual 43, 3) := by decide +kernel
theorem dX6_digest_124 : decode cX6_digest 124 = .ok (.i2l, 1) := by decide +kernel
theorem dX6_digest_125 : decode cX6_digest 125 = .ok (.invokevirtual 207, 3) := by decide +kernel
theorem dX6_digest_128 : decode cX6_digest 128 = .ok (.iinc 2 1, 3) := by decide +kernel
theorem dX6_digest_131 : decode cX6_digest 131 = .ok (.goto (-23), 3) := by decide +kernel
theorem dX6_digest_134 : decode cX6_digest 134 = .ok (.iinc 1 1, 3) := by decide +kernel
theorem dX6_digest_137 : decode cX6_digest 137 = .ok (.goto (-76), 3) := by decide +kernel
theorem dX6_digest_140 : decode cX6_digest 140 = .ok (.aload_n 0, 1) := by decide +kernel
theorem dX6_digest_141 : decode cX6_digest 141 = .ok (.aload_n 0, 1) := by decide +kernel
theorem dX6_digest_142 : decode cX6_digest 142 = .ok (.getfield 7, 3) := by decide +kernel
theorem dX6_digest_145 : decode cX6_digest 145 = .ok (.bipush 8, 2) := by decide +kernel
theorem dX6_digest_147 : decode cX6_digest 147 = .ok (.iaload, 1) := by decide +kernel
theorem dX6_digest_148 : decode cX6_digest 148 = .ok (.i2l, 1) := by decide +kernel
theorem dX6_digest_149 : decode cX6_digest 149 = .ok (.invokevirtual 207, 3) := by decide +kernel
theorem dX6_digest_152 : decode cX6_digest 152 = .ok (.aload_n 0, 1) := by decide +kernel
theorem dX6_digest_153 : decode cX6_digest 153 = .ok (.aload_n 0, 1) := by decide +kernel
theorem dX6_digest_154 : decode cX6_digest 154 = .ok (.getfield 7, 3) := by decide +kernel
theorem dX6_digest_157 : decode cX6_digest 157 = .ok (.bipush 9, 2) := by decide +kernel
theorem dX6_digest_159 : decode cX6_digest 159 = .ok (.iaload, 1) := by decide +kernel
theorem dX6_digest_160 : decode cX6_digest 160 = .ok (.i2l, 1) := by decide +kernel
theorem dX6_digest_161 : decode cX6_digest 161 = .ok (.invokevirtual 207, 3) := by decide +kernel
theorem dX6_digest_164 : decode cX6_digest 164 = .ok (.aload_n 0, 1) := by decide +kernel
theorem dX6_digest_165 : decode cX6_digest 165 = .ok (.aload_n 0, 1) := by decide +kernel
theorem dX6_digest_166 : decode cX6_digest 166 = .ok (.invokevirtual 189, 3) := by decide +kernel
theorem dX6_digest_169 : decode cX6_digest 169 = .ok (.invokestatic 217, 3) := by decide +kernel
theorem dX6_digest_172 : decode cX6_digest 172 = .ok (.invokevirtual 207, 3) := by decide +kernel
theorem dX6_digest_175 : decode cX6_digest 175 = .ok (.aload_n 0, 1) := by decide +kernel
theorem dX6_digest_176 : decode cX6_digest 176 = .ok (.aload_n 0, 1) := by decide +kernel
theorem dX6_digest_177 : decode cX6_digest 177 = .ok (.getfield 121, 3) := by decide +kernel
theorem dX6_digest_180 : decode cX6_digest 180 = .ok (.i2l, 1) := by decide +kernel
theorem dX6_digest_181 : decode cX6_digest 181 = .ok (.invokevirtual 207, 3) := by decide +kernel
theorem dX6_digest_184 : decode cX6_digest 184 = .ok (.iconst 0, 1) := by decide +kernel
theorem dX6_digest_185 : decode cX6_digest 185 = .ok (.istore_n 1, 1) := by decide +kernel
theorem dX6_digest_186 : decode cX6_digest 186 = .ok (.iload_n 1, 1) := by decide +kernel
theorem dX6_digest_187 : decode cX6_digest 187 = .ok (.aload_n 0, 1) := by decide +kernel
theorem dX6_digest_188 : decode cX6_digest 188 = .ok (.getfield 121, 3) := by decide +kernel
theorem dX6_digest_191 : decode cX6_digest 191 = .ok (.if_icmp .ge 20, 3) := by decide +kernel
theorem dX6_digest_194 : decode cX6_digest 194 = .ok (.aload_n 0, 1) := by decide +kernel
theorem dX6_digest_195 : decode cX6_digest 195 = .ok (.aload_n 0, 1) := by decide +kernel
theorem dX6_digest_196 : decode cX6_digest 196 = .ok (.getfield 13, 3) := by decide +kernel
theorem dX6_digest_199 : decode cX6_digest 199 = .ok (.iload_n 1, 1) := by decide +kernel
theorem dX6_digest_200 : decode cX6_digest 200 = .ok (.iaload, 1) := by decide +kernel
theorem dX6_digest_201 : decode cX6_digest 201 = .ok (.i2l, 1) := by decide +kernel
theorem dX6_digest_202 : decode cX6_digest 202 = .ok (.invokevirtual 207, 3) := by decide +kernel
theorem dX6_digest_205 : decode cX6_digest 205 = .ok (.iinc 1 1, 3) := by decide +kernel
theorem dX6_digest_208 : decode cX6_digest 208 = .ok (.goto (-22), 3) := by decide +kernel
theorem dX6_digest_211 : decode cX6_digest 211 = .ok (.aload_n 0, 1) := by decide +kernel
theorem dX6_digest_212 : decode cX6_digest 212 = .ok (.getfield 195, 3) := by decide +kernel
theorem dX6_digest_215 : decode cX6_digest 215 = .ok (.lreturn, 1) := by decide +kernel
theorem dJ9_max_7cf53_0 : decode cJ9_max_7cf53 0 = .ok (.iload_n 0, 1) := by decide +kernel
theorem dJ9_max_7cf53_1 : decode cJ9_max_7cf53 1 = .ok (.iload_n 1, 1) := by decide +kernel
theorem dJ9_max_7cf53_2 : decode cJ9_max_7cf53 2 = .ok (.if_icmp .lt 7, 3) := by decide +kernel
theorem dJ9_max_7cf53_5 : decode cJ9_max_7cf53 5 = .ok (.iload_n 0, 1) := by decide +kernel
theorem dJ9_max_7cf53_6 : decode cJ9_max_7cf53 6 = .ok (.goto 4, 3) := by decide +kernel
theorem dJ9_max_7cf53_9 : decode cJ9_max_7cf53 9 = .ok (.iload_n 1, 1) := by decide +kernel
theorem dJ9_max_7cf53_10 : decode cJ9_max_7cf53 10 = .ok (.ireturn, 1) := by decide +kernel
theorem dJ9_min_7cf53_0 : decode cJ9_min_7cf53 0 = .ok (.iload_n 0, 1) := by decide +kernel
theorem dJ9_min_7cf53_1 : decode cJ9_min_7cf53 1 = .ok (.iload_n 1, 1) := by decide +kernel
theorem dJ9_min_7cf53_2 : decode cJ9_min_7cf53 2 = .ok (.if_icmp .gt 7, 3) := by decide +kernel
theorem dJ9_min_7cf53_5 : decode cJ9_min_7cf53 5 = .ok (.iload_n 0, 1) := by decide +kernel
theorem dJ9_min_7cf53_6 : decode cJ9_min_7cf53 6 = .ok (.goto 4, 3) := by decide +kernel
theorem dJ9_min_7cf53_9 : decode cJ9_min_7cf53 9 = .ok (.iload_n 1, 1) := by decide +kernel
theorem dJ9_min_7cf53_10 : decode cJ9_min_7cf53 10 = .ok (.ireturn, 1) := by decide +kernel
set_option maxRecDepth 20000 in
theorem ggL_come_X5_come : GoodIn wsL_come wsX5_come := goodIn_ca (goodIn_ca (goodIn_r _ [7, 8, 9, 10, 11, 6, 12, 13, 14, 15, 16, 17, 18, 19, 20, 21, 22, 23, 24, 25, 26, 27, 28, 29, 30, 31, 32, 33, 34, 35, 36, 37, 38, 39, 40, 41, 42, 43, 44, 45, 46, 47, 48, 49, 50, 51, 52, 53, 54, 55, 56, 57, 58, 59, 60, 61, 62, 63, 64, 65, 66, 67, 68, 69, 70, 71, 72, 73, 74, 75, 76, 77, 78, 79, 80, 81, 82, 83, 84, 85, 86, 87, 88, 89, 90, 91, 92, 93, 94, 95, 96, 97, 98, 99, 100, 101, 102, 103, 104, 105, 106, 107, 108, 109, 110, 111, 112, 113, 114, 115, 116, 117] (by decide +kernel) (by decide +kernel)) (goodIn_sub (fun _ h => List.mem_cons_of_mem _ (List.mem_append_left _ (List.mem_append_right _ h))) (by decide +kernel))) (goodIn_sub (fun _ h => List.mem_cons_of_mem _ (List.mem_append_right _ h)) (by decide +kernel))
set_option maxRecDepth 20000 in
theorem gL_come_X5_come : GoodIn wsL_come (wsV RL 7 RX5 yX5_come wsX5_come) := goodIn_app (goodIn_of _ (by decide +kernel)) ggL_come_X5_come
theorem dL_come_0 : decode cL_come 0 = .ok (.aload 4, 2) := by decide +kernel
theorem dL_come_2 : decode cL_come 2 = .ok (.iconst 0, 1) := by decide +kernel
theorem dL_come_3 : decode cL_come 3 = .ok (.aload_n 0, 1) := by decide +kernel
theorem dL_come_4 : decode cL_come 4 = .ok (.iload_n 1, 1) := by decide +kernel
theorem dL_come_5 : decode cL_come 5 = .ok (.iload_n 2, 1) := by decide +kernel
theorem dL_come_6 : decode cL_come 6 = .ok (.iload_n 3, 1) := by decide +kernel
theorem dL_come_7 : decode cL_come 7 = .ok (.invokevirtual 7, 3) := by decide +kernel
theorem dL_come_10 : decode cL_come 10 = .ok (.i2l, 1) := by decide +kernel
theorem dL_come_11 : decode cL_come 11 = .ok (.lastore, 1) := by decide +kernel
theorem dL_come_12 : decode cL_come 12 = .ok (.goto 11, 3) := by decide +kernel
theorem dL_come_15 : decode cL_come 15 = .ok (.astore 5, 2) := by decide +kernel
theorem dL_come_17 : decode cL_come 17 = .ok (.iconst 1, 1) := by decide +kernel
theorem dL_come_18 : decode cL_come 18 = .ok (.ireturn, 1) := by decide +kernel
theorem dL_come_19 : decode cL_come 19 = .ok (.astore 5, 2) := by decide +kernel
theorem dL_come_21 : decode cL_come 21 = .ok (.iconst 2, 1) := by decide +kernel
theorem dL_come_22 : decode cL_come 22 = .ok (.ireturn, 1) := by decide +kernel
theorem dL_come_23 : decode cL_come 23 = .ok (.iconst 0, 1) := by decide +kernel
theorem dL_come_24 : decode cL_come 24 = .ok (.ireturn, 1) := by decide +kernel
set_option maxRecDepth 20000 in
theorem ggL_leave_X5_leave : GoodIn wsL_leave wsX5_leave := goodIn_ca (goodIn_ca (goodIn_r _ [7, 8, 9, 10, 11, 12, 6, 13, 14, 15, 16, 17, 18, 19, 20, 21, 22, 23, 24, 25, 26, 27, 28, 29, 30, 31, 32, 33, 34, 35, 36, 37, 38, 39, 40, 41, 42, 43, 44, 45, 46, 47, 48, 49, 50, 51, 52, 53, 54, 55, 56, 57, 58, 59, 60, 61, 62, 63, 64, 65, 66, 67, 68, 69, 70, 71, 72, 73, 74, 75, 76, 77, 78, 79, 80, 81, 82, 83, 84, 85, 86, 87, 88, 89, 90, 91, 92, 93, 94, 95, 96, 97, 98, 99, 100, 101, 102, 103, 104, 105, 106, 107, 108, 109, 110, 111, 112, 113, 114, 115, 116, 117, 118, 119, 120, 121, 122, 123, 124, 125, 126, 127, 128, 129, 130, 131, 132, 133, 134, 135, 136, 137, 138, 139, 140, 141, 142, 143, 144, 145, 146] (by decide +kernel) (by decide +kernel)) (goodIn_sub (fun _ h => List.mem_cons_of_mem _ (List.mem_append_left _ (List.mem_append_right _ h))) (by decide +kernel))) (goodIn_sub (fun _ h => List.mem_cons_of_mem _ (List.mem_append_right _ h)) (by decide +kernel))
set_option maxRecDepth 20000 in
theorem gL_leave_X5_leave : GoodIn wsL_leave (wsV RL 17 RX5 yX5_leave wsX5_leave) := goodIn_app (goodIn_of _ (by decide +kernel)) ggL_leave_X5_leave
theorem dL_leave_0 : decode cL_leave 0 = .ok (.aload_n 2, 1) := by decide +kernel
theorem dL_leave_1 : decode cL_leave 1 = .ok (.iconst 0, 1) := by decide +kernel
theorem dL_leave_2 : decode cL_leave 2 = .ok (.aload_n 0, 1) := by decide +kernel
theorem dL_leave_3 : decode cL_leave 3 = .ok (.iload_n 1, 1) := by decide +kernel
theorem dL_leave_4 : decode cL_leave 4 = .ok (.invokevirtual 17, 3) := by decide +kernel
theorem dL_leave_7 : decode cL_leave 7 = .ok (.i2l, 1) := by decide +kernel
theorem dL_leave_8 : decode cL_leave 8 = .ok (.lastore, 1) := by decide +kernel
theorem dL_leave_9 : decode cL_leave 9 = .ok (.goto 9, 3) := by decide +kernel
theorem dL_leave_12 : decode cL_leave 12 = .ok (.astore_n 3, 1) := by decide +kernel
theorem dL_leave_13 : decode cL_leave 13 = .ok (.iconst 1, 1) := by decide +kernel
theorem dL_leave_14 : decode cL_leave 14 = .ok (.ireturn, 1) := by decide +kernel
theorem dL_leave_15 : decode cL_leave 15 = .ok (.astore_n 3, 1) := by decide +kernel
theorem dL_leave_16 : decode cL_leave 16 = .ok (.iconst 2, 1) := by decide +kernel
theorem dL_leave_17 : decode cL_leave 17 = .ok (.ireturn, 1) := by decide +kernel
theorem dL_leave_18 : decode cL_leave 18 = .ok (.iconst 0, 1) := by decide +kernel
theorem dL_leave_19 : decode cL_leave 19 = .ok (.ireturn, 1) := by decide +kernel
set_option maxRecDepth 20000 in
theorem ggL_earn_X5_earn : GoodIn wsL_earn wsX5_earn := goodIn_ca (goodIn_ca (goodIn_r _ [7, 8, 9, 10, 11, 12, 6, 13, 14, 15, 16, 17, 18, 19, 20, 21, 22, 23, 24, 25, 26, 27, 28, 29, 30, 31, 32, 33, 34, 35, 36, 37, 38, 39, 40, 41, 42, 43, 44, 45, 46, 47, 48, 49, 50, 51, 52, 53, 54, 55, 56, 57, 58, 59, 60, 61, 62, 63, 64, 65, 66, 67, 68, 69, 70, 71, 72, 73, 74, 75, 76, 77, 78, 79, 80, 81, 82, 83, 84, 85, 86, 87, 88, 89, 90, 91, 92, 93, 94, 95, 96, 97, 98, 99, 100, 101, 102, 103, 104, 105, 106, 107, 108, 109, 110, 111, 112, 113, 114, 115, 116, 117, 118, 119, 120, 121] (by decide +kernel) (by decide +kernel)) (goodIn_sub (fun _ h => List.mem_cons_of_mem _ (List.mem_append_left _ (List.mem_append_right _ h))) (by decide +kernel))) (goodIn_sub (fun _ h => List.mem_cons_of_mem _ (List.mem_append_right _ h)) (by decide +kernel))
set_option maxRecDepth 20000 in
theorem gL_earn_X5_earn : GoodIn wsL_earn (wsV RL 23 RX5 yX5_earn wsX5_earn) := goodIn_app (goodIn_of _ (by decide +kernel)) ggL_earn_X5_earn
theorem dL_earn_0 : decode cL_earn 0 = .ok (.aload_n 3, 1) := by decide +kernel
theorem dL_earn_1 : decode cL_earn 1 = .ok (.iconst 0, 1) := by decide +kernel
theorem dL_earn_2 : decode cL_earn 2 = .ok (.aload_n 0, 1) := by decide +kernel
theorem dL_earn_3 : decode cL_earn 3 = .ok (.iload_n 1, 1) := by decide +kernel
theorem dL_earn_4 : decode cL_earn 4 = .ok (.iload_n 2, 1) := by decide +kernel
theorem dL_earn_5 : decode cL_earn 5 = .ok (.invokevirtual 23, 3) := by decide +kernel
theorem dL_earn_8 : decode cL_earn 8 = .ok (.i2l, 1) := by decide +kernel
theorem dL_earn_9 : decode cL_earn 9 = .ok (.lastore, 1) := by decide +kernel
theorem dL_earn_10 : decode cL_earn 10 = .ok (.goto 11, 3) := by decide +kernel
theorem dL_earn_13 : decode cL_earn 13 = .ok (.astore 4, 2) := by decide +kernel
theorem dL_earn_15 : decode cL_earn 15 = .ok (.iconst 1, 1) := by decide +kernel
theorem dL_earn_16 : decode cL_earn 16 = .ok (.ireturn, 1) := by decide +kernel
theorem dL_earn_17 : decode cL_earn 17 = .ok (.astore 4, 2) := by decide +kernel
theorem dL_earn_19 : decode cL_earn 19 = .ok (.iconst 2, 1) := by decide +kernel
theorem dL_earn_20 : decode cL_earn 20 = .ok (.ireturn, 1) := by decide +kernel
theorem dL_earn_21 : decode cL_earn 21 = .ok (.iconst 0, 1) := by decide +kernel
theorem dL_earn_22 : decode cL_earn 22 = .ok (.ireturn, 1) := by decide +kernel
set_option maxRecDepth 20000 in
theorem ggL_lend_X5_lend : GoodIn wsL_lend wsX5_lend := goodIn_ca (goodIn_ca (goodIn_r _ [7, 8, 9, 10, 11, 12, 6, 13, 14, 15, 16, 17, 18, 19, 20, 21, 22, 23, 24, 25, 26, 27, 28, 29, 30, 31, 32, 33, 34, 35, 36, 37, 38, 39, 40, 41, 42, 43, 44, 45, 46, 47, 48, 49, 50, 51, 52, 53, 54, 55, 56, 57, 58, 59, 60, 61, 62, 63, 64, 65, 66, 67, 68, 69, 70, 71, 72, 73, 74, 75, 76, 77, 78, 79, 80, 81, 82, 83, 84, 85, 86, 87, 88, 89, 90, 91, 92, 93, 94, 95, 96, 97, 98, 99, 100, 101, 102, 103, 104, 105, 106, 107, 108, 109, 110, 111, 112, 113, 114, 115, 116, 117, 118, 119, 120, 121, 122, 123, 124, 125, 126, 127, 128, 129] (by decide +kernel) (by decide +kernel)) (goodIn_sub (fun _ h => List.mem_cons_of_mem _ (List.mem_append_left _ (List.mem_append_right _ h))) (by decide +kernel))) (goodIn_sub (fun _ h => List.mem_cons_of_mem _ (List.mem_append_right _ h)) (by decide +kernel))
set_option maxRecDepth 20000 in
theorem gL_lend_X5_lend : GoodIn wsL_lend (wsV RL 27 RX5 yX5_lend wsX5_lend) := goodIn_app (goodIn_of _ (by decide +kernel)) ggL_lend_X5_lend
theorem dL_lend_0 : decode cL_lend 0 = .ok (.aload_n 3, 1) := by decide +kernel
theorem dL_lend_1 : decode cL_lend 1 = .ok (.iconst 0, 1) := by decide +kernel
theorem dL_lend_2 : decode cL_lend 2 = .ok (.aload_n 0, 1) := by decide +kernel
theorem dL_lend_3 : decode cL_lend 3 = .ok (.iload_n 1, 1) := by decide +kernel
theorem dL_lend_4 : decode cL_lend 4 = .ok (.iload_n 2, 1) := by decide +kernel
theorem dL_lend_5 : decode cL_lend 5 = .ok (.invokevirtual 27, 3) := by decide +kernel
theorem dL_lend_8 : decode cL_lend 8 = .ok (.i2l, 1) := by decide +kernel
theorem dL_lend_9 : decode cL_lend 9 = .ok (.lastore, 1) := by decide +kernel
theorem dL_lend_10 : decode cL_lend 10 = .ok (.goto 11, 3) := by decide +kernel
theorem dL_lend_13 : decode cL_lend 13 = .ok (.astore 4, 2) := by decide +kernel
theorem dL_lend_15 : decode cL_lend 15 = .ok (.iconst 1, 1) := by decide +kernel
theorem dL_lend_16 : decode cL_lend 16 = .ok (.ireturn, 1) := by decide +kernel
theorem dL_lend_17 : decode cL_lend 17 = .ok (.astore 4, 2) := by decide +kernel
theorem dL_lend_19 : decode cL_lend 19 = .ok (.iconst 2, 1) := by decide +kernel
theorem dL_lend_20 : decode cL_lend 20 = .ok (.ireturn, 1) := by decide +kernel
theorem dL_lend_21 : decode cL_lend 21 = .ok (.iconst 0, 1) := by decide +kernel
theorem dL_lend_22 : decode cL_lend 22 = .ok (.ireturn, 1) := by decide +kernel
set_option maxRecDepth 20000 in
theorem ggL_giveBack_X5_giveBack : GoodIn wsL_giveBack wsX5_giveBack := goodIn_ca (goodIn_ca (goodIn_r _ [7, 8, 9, 10, 11, 12, 6, 13, 14, 15, 16, 17, 18, 19, 20, 21, 22, 23, 24, 25, 26, 27, 28, 29, 30, 31, 32, 33, 34, 35, 36, 37, 38, 39, 40, 41, 42, 43, 44, 45, 46, 47, 48, 49, 50, 51, 52, 53, 54, 55, 56, 57, 58, 59, 60, 61, 62, 63, 64, 65, 66, 67, 68, 69, 70, 71, 72, 73, 74, 75, 76, 77, 78, 79, 80, 81, 82, 83, 84, 85, 86, 87, 88, 89, 90, 91, 92, 93, 94, 95, 96, 97, 98, 99, 100, 101, 102, 103, 104, 105, 106, 107, 108, 109, 110, 111, 112, 113, 114, 115, 116, 117, 118, 119, 120, 121, 122, 123, 124] (by decide +kernel) (by decide +kernel)) (goodIn_sub (fun _ h => List.mem_cons_of_mem _ (List.mem_append_left _ (List.mem_append_right _ h))) (by decide +kernel))) (goodIn_sub (fun _ h => List.mem_cons_of_mem _ (List.mem_append_right _ h)) (by decide +kernel))
set_option maxRecDepth 20000 in
theorem gL_giveBack_X5_giveBack : GoodIn wsL_giveBack (wsV RL 30 RX5 yX5_giveBack wsX5_giveBack) := goodIn_app (goodIn_of _ (by decide +kernel)) ggL_giveBack_X5_giveBack
theorem dL_giveBack_0 : decode cL_giveBack 0 = .ok (.aload_n 2, 1) := by decide +kernel
theorem dL_giveBack_1 : decode cL_giveBack 1 = .ok (.iconst 0, 1) := by decide +kernel
theorem dL_giveBack_2 : decode cL_giveBack 2 = .ok (.aload_n 0, 1) := by decide +kernel
theorem dL_giveBack_3 : decode cL_giveBack 3 = .ok (.iload_n 1, 1) := by decide +kernel
theorem dL_giveBack_4 : decode cL_giveBack 4 = .ok (.invokevirtual 30, 3) := by decide +kernel
theorem dL_giveBack_7 : decode cL_giveBack 7 = .ok (.i2l, 1) := by decide +kernel
theorem dL_giveBack_8 : decode cL_giveBack 8 = .ok (.lastore, 1) := by decide +kernel
theorem dL_giveBack_9 : decode cL_giveBack 9 = .ok (.goto 9, 3) := by decide +kernel
theorem dL_giveBack_12 : decode cL_giveBack 12 = .ok (.astore_n 3, 1) := by decide +kernel
theorem dL_giveBack_13 : decode cL_giveBack 13 = .ok (.iconst 1, 1) := by decide +kernel
theorem dL_giveBack_14 : decode cL_giveBack 14 = .ok (.ireturn, 1) := by decide +kernel
theorem dL_giveBack_15 : decode cL_giveBack 15 = .ok (.astore_n 3, 1) := by decide +kernel
theorem dL_giveBack_16 : decode cL_giveBack 16 = .ok (.iconst 2, 1) := by decide +kernel
theorem dL_giveBack_17 : decode cL_giveBack 17 = .ok (.ireturn, 1) := by decide +kernel
theorem dL_giveBack_18 : decode cL_giveBack 18 = .ok (.iconst 0, 1) := by decide +kernel
theorem dL_giveBack_19 : decode cL_giveBack 19 = .ok (.ireturn, 1) := by decide +kernel
set_option maxRecDepth 20000 in
theorem ggL_mask_X5_mask : GoodIn wsL_mask wsX5_mask := goodIn_ca (goodIn_ca (goodIn_r _ [7, 8, 9, 10, 11, 12, 6, 13, 14, 15, 16, 17, 18, 19, 20, 21, 22, 23, 24, 25, 26, 27, 28, 29, 30, 31, 32, 33, 34, 35, 36, 37, 38, 39, 40, 41, 42, 43, 44, 45, 46, 47, 48, 49, 50, 51, 52, 53, 54, 55, 56, 57, 58, 59, 60, 61, 62, 63, 64, 65, 66, 67, 68, 69, 70, 71, 72, 73, 74, 75, 76, 77, 78, 79, 80, 81, 82, 83, 84, 85, 86, 87, 88, 89, 90, 91, 92, 93, 94, 95, 96, 97, 98, 99, 100, 101, 102, 103, 104, 105, 106, 107, 108, 109, 110, 111, 112, 113, 114, 115, 116, 117, 118, 119, 120, 121, 122, 123, 124] (by decide +kernel) (by decide +kernel)) (goodIn_sub (fun _ h => List.mem_cons_of_mem _ (List.mem_append_left _ (List.mem_append_right _ h))) (by decide +kernel))) (goodIn_sub (fun _ h => List.mem_cons_of_mem _ (List.mem_append_right _ h)) (by decide +kernel))
set_option maxRecDepth 20000 in
theorem gL_mask_X5_mask : GoodIn wsL_mask (wsV RL 33 RX5 yX5_mask wsX5_mask) := goodIn_app (goodIn_of _ (by decide +kernel)) ggL_mask_X5_mask
theorem dL_mask_0 : decode cL_mask 0 = .ok (.aload_n 2, 1) := by decide +kernel
theorem dL_mask_1 : decode cL_mask 1 = .ok (.iconst 0, 1) := by decide +kernel
theorem dL_mask_2 : decode cL_mask 2 = .ok (.aload_n 0, 1) := by decide +kernel
theorem dL_mask_3 : decode cL_mask 3 = .ok (.iload_n 1, 1) := by decide +kernel
theorem dL_mask_4 : decode cL_mask 4 = .ok (.invokevirtual 33, 3) := by decide +kernel
theorem dL_mask_7 : decode cL_mask 7 = .ok (.i2l, 1) := by decide +kernel
theorem dL_mask_8 : decode cL_mask 8 = .ok (.lastore, 1) := by decide +kernel
theorem dL_mask_9 : decode cL_mask 9 = .ok (.goto 9, 3) := by decide +kernel
theorem dL_mask_12 : decode cL_mask 12 = .ok (.astore_n 3, 1) := by decide +kernel
theorem dL_mask_13 : decode cL_mask 13 = .ok (.iconst 1, 1) := by decide +kernel
theorem dL_mask_14 : decode cL_mask 14 = .ok (.ireturn, 1) := by decide +kernel
theorem dL_mask_15 : decode cL_mask 15 = .ok (.astore_n 3, 1) := by decide +kernel
theorem dL_mask_16 : decode cL_mask 16 = .ok (.iconst 2, 1) := by decide +kernel
theorem dL_mask_17 : decode cL_mask 17 = .ok (.ireturn, 1) := by decide +kernel
theorem dL_mask_18 : decode cL_mask 18 = .ok (.iconst 0, 1) := by decide +kernel
theorem dL_mask_19 : decode cL_mask 19 = .ok (.ireturn, 1) := by decide +kernel
set_option maxRecDepth 20000 in
theorem ggL_pay_X5_pay : GoodIn wsL_pay wsX5_pay := goodIn_ca (goodIn_r _ [6, 7, 8, 9, 10, 11, 5, 12, 13, 14, 15, 16, 17, 18, 19, 20, 21, 22, 23, 24, 25, 26, 27, 28, 29, 30, 31, 32, 33, 34, 35, 36, 37, 38, 39, 40, 41, 42, 43, 44, 45, 46, 47, 48, 49, 50, 51, 52, 53, 54, 55, 56, 57, 58, 59, 60, 61, 62, 63, 64, 65, 66, 67, 68, 69, 70, 71, 72, 73, 74, 75, 76, 77, 78, 79, 80, 81, 82, 83, 84, 85, 86, 87, 88, 89, 90, 91, 92, 93, 94, 95, 96, 97, 98, 99, 100, 101, 102, 103, 104, 105, 106, 107, 108, 109, 110, 111, 112, 113, 114, 115, 116] (by decide +kernel) (by decide +kernel)) (goodIn_sub (fun _ h => List.mem_cons_of_mem _ (List.mem_append_right _ h)) (by decide +kernel))
set_option maxRecDepth 20000 in
theorem gL_pay_X5_pay : GoodIn wsL_pay (wsV RL 36 RX5 yX5_pay wsX5_pay) := goodIn_app (goodIn_of _ (by decide +kernel)) ggL_pay_X5_pay
theorem dL_pay_0 : decode cL_pay 0 = .ok (.aload_n 2, 1) := by decide +kernel
theorem dL_pay_1 : decode cL_pay 1 = .ok (.iconst 0, 1) := by decide +kernel
theorem dL_pay_2 : decode cL_pay 2 = .ok (.aload_n 0, 1) := by decide +kernel
theorem dL_pay_3 : decode cL_pay 3 = .ok (.iload_n 1, 1) := by decide +kernel
theorem dL_pay_4 : decode cL_pay 4 = .ok (.invokevirtual 36, 3) := by decide +kernel
theorem dL_pay_7 : decode cL_pay 7 = .ok (.i2l, 1) := by decide +kernel
theorem dL_pay_8 : decode cL_pay 8 = .ok (.lastore, 1) := by decide +kernel
theorem dL_pay_9 : decode cL_pay 9 = .ok (.goto 6, 3) := by decide +kernel
theorem dL_pay_12 : decode cL_pay 12 = .ok (.astore_n 3, 1) := by decide +kernel
theorem dL_pay_13 : decode cL_pay 13 = .ok (.iconst 1, 1) := by decide +kernel
theorem dL_pay_14 : decode cL_pay 14 = .ok (.ireturn, 1) := by decide +kernel
theorem dL_pay_15 : decode cL_pay 15 = .ok (.iconst 0, 1) := by decide +kernel
theorem dL_pay_16 : decode cL_pay 16 = .ok (.ireturn, 1) := by decide +kernel
set_option maxRecDepth 20000 in
theorem ggL_queue_X5_queue : GoodIn wsL_queue wsX5_queue := goodIn_ca (goodIn_ca (goodIn_r _ [7, 8, 9, 10, 11, 12, 6, 13, 14, 15, 16, 17, 18, 19, 20, 21, 22, 23, 24, 25, 26, 27, 28, 29, 30, 31, 32, 33, 34, 35, 36, 37, 38, 39, 40, 41, 42, 43, 44, 45, 46, 47, 48, 49, 50, 51, 52, 53, 54, 55, 56, 57, 58, 59, 60, 61, 62, 63, 64, 65, 66, 67, 68, 69, 70, 71, 72, 73, 74, 75, 76, 77, 78, 79, 80, 81, 82, 83, 84, 85, 86, 87, 88, 89, 90, 91, 92, 93, 94, 95, 96, 97, 98, 99, 100, 101, 102, 103, 104, 105, 106, 107, 108, 109, 110, 111, 112, 113, 114, 115, 116, 117, 118, 119, 120, 121, 122, 123, 124, 125, 126, 127, 128, 129, 130, 131, 132, 133, 134, 135, 136, 137, 138, 139] (by decide +kernel) (by decide +kernel)) (goodIn_sub (fun _ h => List.mem_cons_of_mem _ (List.mem_append_left _ (List.mem_append_right _ h))) (by decide +kernel))) (goodIn_sub (fun _ h => List.mem_cons_of_mem _ (List.mem_append_right _ h)) (by decide +kernel))
set_option maxRecDepth 20000 in
theorem gL_queue_X5_queue : GoodIn wsL_queue (wsV RL 39 RX5 yX5_queue wsX5_queue) := goodIn_app (goodIn_of _ (by decide +kernel)) ggL_queue_X5_queue
theorem dL_queue_0 : decode cL_queue 0 = .ok (.aload_n 3, 1) := by decide +kernel
theorem dL_queue_1 : decode cL_queue 1 = .ok (.iconst 0, 1) := by decide +kernel
theorem dL_queue_2 : decode cL_queue 2 = .ok (.aload_n 0, 1) := by decide +kernel
theorem dL_queue_3 : decode cL_queue 3 = .ok (.iload_n 1, 1) := by decide +kernel
theorem dL_queue_4 : decode cL_queue 4 = .ok (.iload_n 2, 1) := by decide +kernel
theorem dL_queue_5 : decode cL_queue 5 = .ok (.invokevirtual 39, 3) := by decide +kernel
theorem dL_queue_8 : decode cL_queue 8 = .ok (.i2l, 1) := by decide +kernel
theorem dL_queue_9 : decode cL_queue 9 = .ok (.lastore, 1) := by decide +kernel
theorem dL_queue_10 : decode cL_queue 10 = .ok (.goto 11, 3) := by decide +kernel
theorem dL_queue_13 : decode cL_queue 13 = .ok (.astore 4, 2) := by decide +kernel
theorem dL_queue_15 : decode cL_queue 15 = .ok (.iconst 1, 1) := by decide +kernel
theorem dL_queue_16 : decode cL_queue 16 = .ok (.ireturn, 1) := by decide +kernel
theorem dL_queue_17 : decode cL_queue 17 = .ok (.astore 4, 2) := by decide +kernel
theorem dL_queue_19 : decode cL_queue 19 = .ok (.iconst 2, 1) := by decide +kernel
theorem dL_queue_20 : decode cL_queue 20 = .ok (.ireturn, 1) := by decide +kernel
theorem dL_queue_21 : decode cL_queue 21 = .ok (.iconst 0, 1) := by decide +kernel
theorem dL_queue_22 : decode cL_queue 22 = .ok (.ireturn, 1) := by decide +kernel
set_option maxRecDepth 20000 in
theorem ggL_open_X5_open : GoodIn wsL_open wsX5_open := goodIn_ca (goodIn_ca (goodIn_r _ [7, 8, 9, 10, 11, 6, 12, 13, 14, 15, 16, 17, 18, 19, 20, 21, 22, 23, 24, 25, 26, 27, 28, 29, 30, 31, 32, 33, 34, 35, 36, 37, 38, 39, 40, 41, 42, 43, 44, 45, 46, 47, 48, 49, 50, 51, 52, 53, 54, 55, 56, 57, 58, 59, 60, 61, 62, 63, 64, 65, 66, 67, 68, 69, 70, 71, 72, 73, 74, 75, 76, 77, 78, 79, 80, 81, 82, 83, 84, 85, 86, 87, 88, 89, 90, 91, 92, 93, 94, 95, 96, 97, 98, 99, 100, 101, 102, 103, 104, 105, 106, 107, 108, 109, 110, 111, 112, 113, 114, 115, 116, 117, 118, 119, 120, 121, 122, 123, 124, 125, 126, 127, 128, 129, 130, 131, 132, 133, 134, 135, 136, 137, 138, 139, 140, 141, 142, 143, 144, 145, 146, 147, 148, 149, 150, 151, 152, 153, 154, 155, 156, 157, 158, 159, 160, 161, 162, 163, 164, 165, 166, 167, 168, 169, 170, 171, 172] (by decide +kernel) (by decide +kernel)) (goodIn_sub (fun _ h => List.mem_cons_of_mem _ (List.mem_append_left _ (List.mem_append_right _ h))) (by decide +kernel))) (goodIn_sub (fun _ h => List.mem_cons_of_mem _ (List.mem_append_right _ h)) (by decide +kernel))
set_option maxRecDepth 20000 in
theorem gL_open_X5_open : GoodIn wsL_open (wsV RL 42 RX5 yX5_open wsX5_open) := goodIn_app (goodIn_of _ (by decide +kernel)) ggL_open_X5_open
theorem dL_open_0 : decode cL_open 0 = .ok (.aload_n 2, 1) := by decide +kernel
theorem dL_open_1 : decode cL_open 1 = .ok (.iconst 0, 1) := by decide +kernel
theorem dL_open_2 : decode cL_open 2 = .ok (.aload_n 0, 1) := by decide +kernel
theorem dL_open_3 : decode cL_open 3 = .ok (.iload_n 1, 1) := by decide +kernel
theorem dL_open_4 : decode cL_open 4 = .ok (.invokevirtual 42, 3) := by decide +kernel
theorem dL_open_7 : decode cL_open 7 = .ok (.i2l, 1) := by decide +kernel
theorem dL_open_8 : decode cL_open 8 = .ok (.lastore, 1) := by decide +kernel
theorem dL_open_9 : decode cL_open 9 = .ok (.goto 9, 3) := by decide +kernel
theorem dL_open_12 : decode cL_open 12 = .ok (.astore_n 3, 1) := by decide +kernel
theorem dL_open_13 : decode cL_open 13 = .ok (.iconst 1, 1) := by decide +kernel
theorem dL_open_14 : decode cL_open 14 = .ok (.ireturn, 1) := by decide +kernel
theorem dL_open_15 : decode cL_open 15 = .ok (.astore_n 3, 1) := by decide +kernel
theorem dL_open_16 : decode cL_open 16 = .ok (.iconst 2, 1) := by decide +kernel
theorem dL_open_17 : decode cL_open 17 = .ok (.ireturn, 1) := by decide +kernel
theorem dL_open_18 : decode cL_open 18 = .ok (.iconst 0, 1) := by decide +kernel
theorem dL_open_19 : decode cL_open 19 = .ok (.ireturn, 1) := by decide +kernel
set_option maxRecDepth 20000 in
theorem ggL_set_X5_set : GoodIn wsL_set wsX5_set := goodIn_ca (goodIn_ca (goodIn_r _ [7, 8, 9, 10, 11, 12, 13, 6, 14, 15, 16, 17, 18, 19, 20, 21, 22, 23, 24, 25, 26, 27, 28, 29, 30, 31, 32, 33, 34, 35, 36, 37, 38, 39, 40, 41, 42, 43, 44, 45, 46, 47, 48, 49, 50, 51, 52, 53, 54, 55, 56, 57, 58, 59, 60, 61, 62, 63, 64, 65, 66, 67, 68, 69, 70, 71, 72, 73, 74, 75, 76, 77, 78, 79, 80, 81, 82, 83, 84, 85, 86, 87, 88, 89, 90, 91, 92, 93, 94, 95, 96, 97, 98, 99, 100, 101, 102, 103, 104, 105, 106, 107, 108, 109, 110, 111, 112, 113, 114, 115, 116, 117] (by decide +kernel) (by decide +kernel)) (goodIn_sub (fun _ h => List.mem_cons_of_mem _ (List.mem_append_left _ (List.mem_append_right _ h))) (by decide +kernel))) (goodIn_sub (fun _ h => List.mem_cons_of_mem _ (List.mem_append_right _ h)) (by decide +kernel))
set_option maxRecDepth 20000 in
theorem gL_set_X5_set : GoodIn wsL_set (wsV RL 45 RX5 yX5_set wsX5_set) := goodIn_app (goodIn_of _ (by decide +kernel)) ggL_set_X5_set
theorem dL_set_0 : decode cL_set 0 = .ok (.aload_n 3, 1) := by decide +kernel
theorem dL_set_1 : decode cL_set 1 = .ok (.iconst 0, 1) := by decide +kernel
theorem dL_set_2 : decode cL_set 2 = .ok (.aload_n 0, 1) := by decide +kernel
theorem dL_set_3 : decode cL_set 3 = .ok (.iload_n 1, 1) := by decide +kernel
theorem dL_set_4 : decode cL_set 4 = .ok (.iload_n 2, 1) := by decide +kernel
theorem dL_set_5 : decode cL_set 5 = .ok (.invokevirtual 45, 3) := by decide +kernel
theorem dL_set_8 : decode cL_set 8 = .ok (.i2l, 1) := by decide +kernel
theorem dL_set_9 : decode cL_set 9 = .ok (.lastore, 1) := by decide +kernel
theorem dL_set_10 : decode cL_set 10 = .ok (.goto 11, 3) := by decide +kernel
theorem dL_set_13 : decode cL_set 13 = .ok (.astore 4, 2) := by decide +kernel
theorem dL_set_15 : decode cL_set 15 = .ok (.iconst 1, 1) := by decide +kernel
theorem dL_set_16 : decode cL_set 16 = .ok (.ireturn, 1) := by decide +kernel
theorem dL_set_17 : decode cL_set 17 = .ok (.astore 4, 2) := by decide +kernel
theorem dL_set_19 : decode cL_set 19 = .ok (.iconst 2, 1) := by decide +kernel
theorem dL_set_20 : decode cL_set 20 = .ok (.ireturn, 1) := by decide +kernel
theorem dL_set_21 : decode cL_set 21 = .ok (.iconst 0, 1) := by decide +kernel
theorem dL_set_22 : decode cL_set 22 = .ok (.ireturn, 1) := by decide +kernel
set_option maxRecDepth 20000 in
theorem ggL_append_X5_append : GoodIn wsL_append wsX5_append := goodIn_ca (goodIn_ca (goodIn_r _ [7, 8, 9, 10, 6, 11, 12, 13, 14, 15, 16, 17, 18, 19, 20, 21, 22, 23, 24, 25, 26, 27, 28, 29, 30, 31, 32, 33, 34, 35, 36] (by decide +kernel) (by decide +kernel)) (goodIn_sub (fun _ h => List.mem_cons_of_mem _ (List.mem_append_left _ (List.mem_append_right _ h))) (by decide +kernel))) (goodIn_sub (fun _ h => List.mem_cons_of_mem _ (List.mem_append_right _ h)) (by decide +kernel))
set_option maxRecDepth 20000 in
theorem gL_append_X5_append : GoodIn wsL_append (wsV RL 48 RX5 yX5_append wsX5_append) := goodIn_app (goodIn_of _ (by decide +kernel)) ggL_append_X5_append
theorem dL_append_0 : decode cL_append 0 = .ok (.aload_n 2, 1) := by decide +kernel
theorem dL_append_1 : decode cL_append 1 = .ok (.iconst 0, 1) := by decide +kernel
theorem dL_append_2 : decode cL_append 2 = .ok (.aload_n 0, 1) := by decide +kernel
theorem dL_append_3 : decode cL_append 3 = .ok (.iload_n 1, 1) := by decide +kernel
theorem dL_append_4 : decode cL_append 4 = .ok (.invokevirtual 48, 3) := by decide +kernel
theorem dL_append_7 : decode cL_append 7 = .ok (.i2l, 1) := by decide +kernel
theorem dL_append_8 : decode cL_append 8 = .ok (.lastore, 1) := by decide +kernel
theorem dL_append_9 : decode cL_append 9 = .ok (.goto 9, 3) := by decide +kernel
theorem dL_append_12 : decode cL_append 12 = .ok (.astore_n 3, 1) := by decide +kernel
theorem dL_append_13 : decode cL_append 13 = .ok (.iconst 1, 1) := by decide +kernel
theorem dL_append_14 : decode cL_append 14 = .ok (.ireturn, 1) := by decide +kernel
theorem dL_append_15 : decode cL_append 15 = .ok (.astore_n 3, 1) := by decide +kernel
theorem dL_append_16 : decode cL_append 16 = .ok (.iconst 2, 1) := by decide +kernel
theorem dL_append_17 : decode cL_append 17 = .ok (.ireturn, 1) := by decide +kernel
theorem dL_append_18 : decode cL_append 18 = .ok (.iconst 0, 1) := by decide +kernel
theorem dL_append_19 : decode cL_append 19 = .ok (.ireturn, 1) := by decide +kernel
set_option maxRecDepth 20000 in
theorem ggL_revel_X5_revel : GoodIn wsL_revel wsX5_revel := goodIn_ca (goodIn_r _ [6, 7, 8, 9, 10, 11, 12, 13, 14, 15, 16, 17, 18, 19, 20, 5, 21, 22, 23, 24, 25, 26, 27, 28, 29, 30, 31, 32, 33, 34, 35, 36, 37, 38, 39, 40, 41, 42, 43, 44, 45, 46, 47, 48, 49, 50, 51, 52, 53, 54, 55, 56, 57, 58, 59, 60, 61, 62, 63, 64, 65, 66, 67, 68, 69, 70, 71, 72, 73, 74, 75, 76, 77, 78, 79, 80, 81, 82, 83, 84, 85, 86, 87, 88, 89, 90, 91, 92, 93, 94, 95, 96, 97, 98, 99, 100, 101, 102, 103, 104, 105, 106, 107, 108, 109, 110, 111, 112, 113, 114, 115, 116, 117, 118, 119, 120, 121, 122, 123, 124, 125, 126, 127, 128, 129, 130, 131, 132, 133, 134, 135, 136, 137, 138, 139, 140, 141, 142, 143, 144, 145, 146, 147, 148, 149, 150, 151, 152, 153, 154, 155, 156, 157, 158, 159, 160, 161, 162, 163, 164, 165, 166, 167, 168, 169, 170, 171, 172, 173, 174, 175, 176, 177, 178, 179, 180, 181, 182, 183, 184, 185, 186, 187, 188, 189, 190, 191, 192, 193, 194, 195, 196, 197, 198, 199, 200, 201, 202, 203, 204, 205, 206, 207, 208, 209, 210, 211, 212, 213, 214, 215, 216, 217, 218, 219, 220, 221, 222, 223, 224, 225, 226, 227, 228, 229, 230, 231, 232, 233, 234, 235, 236, 237, 238, 239, 240, 241, 242, 243, 244, 245, 246, 247, 248, 249, 250, 251, 252, 253, 254, 255, 256, 257, 258, 259, 260, 261, 262, 263, 264] (by decide +kernel) (by decide +kernel)) (goodIn_sub (fun _ h => List.mem_cons_of_mem _ (List.mem_append_right _ h)) (by decide +kernel))
set_option maxRecDepth 20000 in
theorem gL_revel_X5_revel : GoodIn wsL_revel (wsV RL 51 RX5 yX5_revel wsX5_revel) := goodIn_app (goodIn_of _ (by decide +kernel)) ggL_revel_X5_revel
theorem dL_revel_0 : decode cL_revel 0 = .ok (.aload_n 1, 1) := by decide +kernel
theorem dL_revel_1 : decode cL_revel 1 = .ok (.iconst 0, 1) := by decide +kernel
theorem dL_revel_2 : decode cL_revel 2 = .ok (.aload_n 0, 1) := by decide +kernel
theorem dL_revel_3 : decode cL_revel 3 = .ok (.invokevirtual 51, 3) := by decide +kernel
theorem dL_revel_6 : decode cL_revel 6 = .ok (.i2l, 1) := by decide +kernel
theorem dL_revel_7 : decode cL_revel 7 = .ok (.lastore, 1) := by decide +kernel
theorem dL_revel_8 : decode cL_revel 8 = .ok (.goto 6, 3) := by decide +kernel
theorem dL_revel_11 : decode cL_revel 11 = .ok (.astore_n 2, 1) := by decide +kernel
theorem dL_revel_12 : decode cL_revel 12 = .ok (.iconst 1, 1) := by decide +kernel
theorem dL_revel_13 : decode cL_revel 13 = .ok (.ireturn, 1) := by decide +kernel
theorem dL_revel_14 : decode cL_revel 14 = .ok (.iconst 0, 1) := by decide +kernel
theorem dL_revel_15 : decode cL_revel 15 = .ok (.ireturn, 1) := by decide +kernel
set_option maxRecDepth 20000 in
theorem ggL_stopped_X5_stopped : GoodIn wsL_stopped wsX5_stopped := goodIn_ca (goodIn_r _ [6, 7, 8, 9, 5, 10, 11, 12, 13, 14, 15, 16, 17, 18, 19, 20, 21, 22, 23, 24, 25, 26, 27, 28, 29, 30, 31, 32, 33, 34, 35, 36, 37, 38] (by decide +kernel) (by decide +kernel)) (goodIn_sub (fun _ h => List.mem_cons_of_mem _ (List.mem_append_right _ h)) (by decide +kernel))
set_option maxRecDepth 20000 in
theorem gL_stopped_X5_stopped : GoodIn wsL_stopped (wsV RL 55 RX5 yX5_stopped wsX5_stopped) := goodIn_app (goodIn_of _ (by decide +kernel)) ggL_stopped_X5_stopped
theorem dL_stopped_0 : decode cL_stopped 0 = .ok (.aload_n 2, 1) := by decide +kernel
theorem dL_stopped_1 : decode cL_stopped 1 = .ok (.iconst 0, 1) := by decide +kernel
theorem dL_stopped_2 : decode cL_stopped 2 = .ok (.aload_n 0, 1) := by decide +kernel
theorem dL_stopped_3 : decode cL_stopped 3 = .ok (.iload_n 1, 1) := by decide +kernel
theorem dL_stopped_4 : decode cL_stopped 4 = .ok (.invokevirtual 55, 3) := by decide +kernel
theorem dL_stopped_7 : decode cL_stopped 7 = .ok (.i2l, 1) := by decide +kernel
theorem dL_stopped_8 : decode cL_stopped 8 = .ok (.lastore, 1) := by decide +kernel
theorem dL_stopped_9 : decode cL_stopped 9 = .ok (.goto 6, 3) := by decide +kernel
theorem dL_stopped_12 : decode cL_stopped 12 = .ok (.astore_n 3, 1) := by decide +kernel
theorem dL_stopped_13 : decode cL_stopped 13 = .ok (.iconst 1, 1) := by decide +kernel
theorem dL_stopped_14 : decode cL_stopped 14 = .ok (.ireturn, 1) := by decide +kernel
theorem dL_stopped_15 : decode cL_stopped 15 = .ok (.iconst 0, 1) := by decide +kernel
theorem dL_stopped_16 : decode cL_stopped 16 = .ok (.ireturn, 1) := by decide +kernel
set_option maxRecDepth 20000 in
theorem ggL_undo_X5_undo : GoodIn wsL_undo wsX5_undo := goodIn_ca (goodIn_r _ [6, 7, 8, 9, 10, 5, 11, 12, 13, 14, 15, 16, 17, 18, 19, 20, 21, 22, 23, 24, 25, 26, 27, 28, 29, 30, 31, 32, 33, 34, 35, 36, 37, 38, 39, 40, 41, 42, 43, 44, 45, 46, 47, 48, 49, 50, 51, 52, 53, 54, 55, 56, 57, 58, 59, 60, 61, 62, 63, 64, 65, 66, 67, 68, 69, 70, 71, 72, 73, 74, 75, 76, 77, 78, 79, 80, 81, 82, 83, 84, 85, 86, 87, 88, 89, 90, 91, 92, 93, 94, 95, 96, 97, 98, 99, 100] (by decide +kernel) (by decide +kernel)) (goodIn_sub (fun _ h => List.mem_cons_of_mem _ (List.mem_append_right _ h)) (by decide +kernel))
set_option maxRecDepth 20000 in
theorem gL_undo_X5_undo : GoodIn wsL_undo (wsV RL 58 RX5 yX5_undo wsX5_undo) := goodIn_app (goodIn_of _ (by decide +kernel)) ggL_undo_X5_undo
theorem dL_undo_0 : decode cL_undo 0 = .ok (.aload_n 1, 1) := by decide +kernel
theorem dL_undo_1 : decode cL_undo 1 = .ok (.iconst 0, 1) := by decide +kernel
theorem dL_undo_2 : decode cL_undo 2 = .ok (.aload_n 0, 1) := by decide +kernel
theorem dL_undo_3 : decode cL_undo 3 = .ok (.invokevirtual 58, 3) := by decide +kernel
theorem dL_undo_6 : decode cL_undo 6 = .ok (.i2l, 1) := by decide +kernel
theorem dL_undo_7 : decode cL_undo 7 = .ok (.lastore, 1) := by decide +kernel
theorem dL_undo_8 : decode cL_undo 8 = .ok (.goto 6, 3) := by decide +kernel
theorem dL_undo_11 : decode cL_undo 11 = .ok (.astore_n 2, 1) := by decide +kernel
theorem dL_undo_12 : decode cL_undo 12 = .ok (.iconst 1, 1) := by decide +kernel
theorem dL_undo_13 : decode cL_undo 13 = .ok (.ireturn, 1) := by decide +kernel
theorem dL_undo_14 : decode cL_undo 14 = .ok (.iconst 0, 1) := by decide +kernel
theorem dL_undo_15 : decode cL_undo 15 = .ok (.ireturn, 1) := by decide +kernel
set_option maxRecDepth 20000 in
theorem ggL_restore_X5_restore : GoodIn wsL_restore wsX5_restore := goodIn_ca (goodIn_r _ [6, 7, 8, 9, 10, 11, 12, 5, 13, 14, 15, 16, 17, 18, 19, 20, 21, 22, 23, 24, 25, 26, 27, 28, 29, 30, 31, 32, 33, 34, 35, 36, 37, 38, 39, 40, 41, 42, 43, 44, 45, 46, 47, 48, 49, 50, 51, 52, 53, 54, 55, 56, 57, 58, 59, 60, 61, 62, 63, 64, 65, 66, 67, 68, 69, 70, 71, 72, 73, 74, 75, 76, 77, 78, 79, 80, 81, 82, 83, 84, 85, 86, 87, 88, 89, 90, 91, 92, 93, 94, 95, 96, 97, 98, 99, 100, 101, 102] (by decide +kernel) (by decide +kernel)) (goodIn_sub (fun _ h => List.mem_cons_of_mem _ (List.mem_append_right _ h)) (by decide +kernel))
set_option maxRecDepth 20000 in
theorem gL_restore_X5_restore : GoodIn wsL_restore (wsV RL 61 RX5 yX5_restore wsX5_restore) := goodIn_app (goodIn_of _ (by decide +kernel)) ggL_restore_X5_restore
theorem dL_restore_0 : decode cL_restore 0 = .ok (.aload_n 1, 1) := by decide +kernel
theorem dL_restore_1 : decode cL_restore 1 = .ok (.iconst 0, 1) := by decide +kernel
theorem dL_restore_2 : decode cL_restore 2 = .ok (.aload_n 0, 1) := by decide +kernel
theorem dL_restore_3 : decode cL_restore 3 = .ok (.invokevirtual 61, 3) := by decide +kernel
theorem dL_restore_6 : decode cL_restore 6 = .ok (.i2l, 1) := by decide +kernel
theorem dL_restore_7 : decode cL_restore 7 = .ok (.lastore, 1) := by decide +kernel
theorem dL_restore_8 : decode cL_restore 8 = .ok (.goto 6, 3) := by decide +kernel
theorem dL_restore_11 : decode cL_restore 11 = .ok (.astore_n 2, 1) := by decide +kernel
theorem dL_restore_12 : decode cL_restore 12 = .ok (.iconst 1, 1) := by decide +kernel
theorem dL_restore_13 : decode cL_restore 13 = .ok (.ireturn, 1) := by decide +kernel
theorem dL_restore_14 : decode cL_restore 14 = .ok (.iconst 0, 1) := by decide +kernel
theorem dL_restore_15 : decode cL_restore 15 = .ok (.ireturn, 1) := by decide +kernel
set_option maxRecDepth 20000 in
theorem ggL_guest_X5_guest : GoodIn wsL_guest wsX5_guest := goodIn_ca (goodIn_ca (goodIn_r _ [7, 8, 9, 10, 11, 6, 12, 13, 14, 15, 16, 17, 18, 19, 20, 21, 22, 23, 24, 25, 26, 27, 28, 29, 30, 31, 32, 33, 34, 35, 36, 37, 38, 39, 40, 41, 42, 43, 44, 45, 46, 47, 48, 49, 50, 51, 52, 53, 54, 55, 56, 57, 58, 59, 60, 61, 62, 63, 64, 65, 66, 67, 68, 69, 70, 71, 72, 73, 74, 75, 76, 77, 78, 79, 80, 81, 82, 83, 84, 85, 86] (by decide +kernel) (by decide +kernel)) (goodIn_sub (fun _ h => List.mem_cons_of_mem _ (List.mem_append_left _ (List.mem_append_right _ h))) (by decide +kernel))) (goodIn_sub (fun _ h => List.mem_cons_of_mem _ (List.mem_append_right _ h)) (by decide +kernel))
set_option maxRecDepth 20000 in
theorem gL_guest_X5_guest : GoodIn wsL_guest (wsV RL 64 RX5 yX5_guest wsX5_guest) := goodIn_app (goodIn_of _ (by decide +kernel)) ggL_guest_X5_guest
theorem dL_guest_0 : decode cL_guest 0 = .ok (.aload_n 3, 1) := by decide +kernel
theorem dL_guest_1 : decode cL_guest 1 = .ok (.iconst 0, 1) := by decide +kernel
theorem dL_guest_2 : decode cL_guest 2 = .ok (.aload_n 0, 1) := by decide +kernel
theorem dL_guest_3 : decode cL_guest 3 = .ok (.iload_n 1, 1) := by decide +kernel
theorem dL_guest_4 : decode cL_guest 4 = .ok (.iload_n 2, 1) := by decide +kernel
theorem dL_guest_5 : decode cL_guest 5 = .ok (.invokevirtual 64, 3) := by decide +kernel
theorem dL_guest_8 : decode cL_guest 8 = .ok (.i2l, 1) := by decide +kernel
theorem dL_guest_9 : decode cL_guest 9 = .ok (.lastore, 1) := by decide +kernel
theorem dL_guest_10 : decode cL_guest 10 = .ok (.goto 11, 3) := by decide +kernel
theorem dL_guest_13 : decode cL_guest 13 = .ok (.astore 4, 2) := by decide +kernel
theorem dL_guest_15 : decode cL_guest 15 = .ok (.iconst 1, 1) := by decide +kernel
theorem dL_guest_16 : decode cL_guest 16 = .ok (.ireturn, 1) := by decide +kernel
theorem dL_guest_17 : decode cL_guest 17 = .ok (.astore 4, 2) := by decide +kernel
theorem dL_guest_19 : decode cL_guest 19 = .ok (.iconst 2, 1) := by decide +kernel
theorem dL_guest_20 : decode cL_guest 20 = .ok (.ireturn, 1) := by decide +kernel
theorem dL_guest_21 : decode cL_guest 21 = .ok (.iconst 0, 1) := by decide +kernel
theorem dL_guest_22 : decode cL_guest 22 = .ok (.ireturn, 1) := by decide +kernel
set_option maxRecDepth 20000 in
theorem ggL_law_X5_law : GoodIn wsL_law wsX5_law := goodIn_ca (goodIn_ca (goodIn_r _ [7, 8, 9, 10, 6, 11, 12, 13, 14, 15, 16, 17, 18, 19, 20, 21, 22, 23, 24, 25, 26, 27, 28, 29, 30, 31, 32, 33, 34, 35, 36, 37, 38, 39, 40, 41, 42, 43, 44, 45, 46, 47, 48, 49, 50, 51, 52] (by decide +kernel) (by decide +kernel)) (goodIn_sub (fun _ h => List.mem_cons_of_mem _ (List.mem_append_left _ (List.mem_append_right _ h))) (by decide +kernel))) (goodIn_sub (fun _ h => List.mem_cons_of_mem _ (List.mem_append_right _ h)) (by decide +kernel))
set_option maxRecDepth 20000 in
theorem gL_law_X5_law : GoodIn wsL_law (wsV RL 67 RX5 yX5_law wsX5_law) := goodIn_app (goodIn_of _ (by decide +kernel)) ggL_law_X5_law
theorem dL_law_0 : decode cL_law 0 = .ok (.aload 4, 2) := by decide +kernel
theorem dL_law_2 : decode cL_law 2 = .ok (.iconst 0, 1) := by decide +kernel
theorem dL_law_3 : decode cL_law 3 = .ok (.aload_n 0, 1) := by decide +kernel
theorem dL_law_4 : decode cL_law 4 = .ok (.iload_n 1, 1) := by decide +kernel
theorem dL_law_5 : decode cL_law 5 = .ok (.iload_n 2, 1) := by decide +kernel
theorem dL_law_6 : decode cL_law 6 = .ok (.iload_n 3, 1) := by decide +kernel
theorem dL_law_7 : decode cL_law 7 = .ok (.invokevirtual 67, 3) := by decide +kernel
theorem dL_law_10 : decode cL_law 10 = .ok (.i2l, 1) := by decide +kernel
theorem dL_law_11 : decode cL_law 11 = .ok (.lastore, 1) := by decide +kernel
theorem dL_law_12 : decode cL_law 12 = .ok (.goto 11, 3) := by decide +kernel
theorem dL_law_15 : decode cL_law 15 = .ok (.astore 5, 2) := by decide +kernel
theorem dL_law_17 : decode cL_law 17 = .ok (.iconst 1, 1) := by decide +kernel
theorem dL_law_18 : decode cL_law 18 = .ok (.ireturn, 1) := by decide +kernel
theorem dL_law_19 : decode cL_law 19 = .ok (.astore 5, 2) := by decide +kernel
theorem dL_law_21 : decode cL_law 21 = .ok (.iconst 2, 1) := by decide +kernel
theorem dL_law_22 : decode cL_law 22 = .ok (.ireturn, 1) := by decide +kernel
theorem dL_law_23 : decode cL_law 23 = .ok (.iconst 0, 1) := by decide +kernel
theorem dL_law_24 : decode cL_law 24 = .ok (.ireturn, 1) := by decide +kernel
set_option maxRecDepth 20000 in
theorem ggL_count_X5_count : GoodIn wsL_count wsX5_count := goodIn_ca (goodIn_r _ [6, 7, 8, 5, 9, 10, 11, 12, 13, 14, 15, 16, 17, 18, 19, 20, 21, 22, 23, 24, 25, 26, 27, 28, 29, 30, 31, 32, 33, 34, 35, 36, 37, 38, 39, 40, 41, 42, 43, 44, 45, 46, 47, 48, 49, 50, 51, 52, 53, 54, 55, 56, 57, 58, 59, 60, 61, 62, 63, 64, 65, 66, 67, 68, 69, 70, 71, 72, 73, 74, 75, 76, 77, 78, 79, 80, 81, 82, 83, 84] (by decide +kernel) (by decide +kernel)) (goodIn_sub (fun _ h => List.mem_cons_of_mem _ (List.mem_append_right _ h)) (by decide +kernel))
set_option maxRecDepth 20000 in
theorem gL_count_X5_count : GoodIn wsL_count (wsV RL 70 RX5 yX5_count wsX5_count) := goodIn_app (goodIn_of _ (by decide +kernel)) ggL_count_X5_count
theorem dL_count_0 : decode cL_count 0 = .ok (.aload_n 2, 1) := by decide +kernel
theorem dL_count_1 : decode cL_count 1 = .ok (.iconst 0, 1) := by decide +kernel
theorem dL_count_2 : decode cL_count 2 = .ok (.aload_n 0, 1) := by decide +kernel
theorem dL_count_3 : decode cL_count 3 = .ok (.iload_n 1, 1) := by decide +kernel
theorem dL_count_4 : decode cL_count 4 = .ok (.invokevirtual 70, 3) := by decide +kernel
theorem dL_count_7 : decode cL_count 7 = .ok (.i2l, 1) := by decide +kernel
theorem dL_count_8 : decode cL_count 8 = .ok (.lastore, 1) := by decide +kernel
theorem dL_count_9 : decode cL_count 9 = .ok (.goto 6, 3) := by decide +kernel
theorem dL_count_12 : decode cL_count 12 = .ok (.astore_n 3, 1) := by decide +kernel
theorem dL_count_13 : decode cL_count 13 = .ok (.iconst 1, 1) := by decide +kernel
theorem dL_count_14 : decode cL_count 14 = .ok (.ireturn, 1) := by decide +kernel
theorem dL_count_15 : decode cL_count 15 = .ok (.iconst 0, 1) := by decide +kernel
theorem dL_count_16 : decode cL_count 16 = .ok (.ireturn, 1) := by decide +kernel
set_option maxRecDepth 20000 in
theorem ggL_line_X5_line : GoodIn wsL_line wsX5_line := goodIn_ca (goodIn_r _ [6, 7, 8, 9, 5, 10, 11, 12, 13, 14, 15, 16, 17, 18, 19, 20, 21, 22, 23, 24, 25, 26, 27, 28, 29, 30, 31, 32, 33, 34, 35, 36, 37, 38, 39, 40] (by decide +kernel) (by decide +kernel)) (goodIn_sub (fun _ h => List.mem_cons_of_mem _ (List.mem_append_right _ h)) (by decide +kernel))
set_option maxRecDepth 20000 in
theorem gL_line_X5_line : GoodIn wsL_line (wsV RL 73 RX5 yX5_line wsX5_line) := goodIn_app (goodIn_of _ (by decide +kernel)) ggL_line_X5_line
theorem dL_line_0 : decode cL_line 0 = .ok (.aload_n 2, 1) := by decide +kernel
theorem dL_line_1 : decode cL_line 1 = .ok (.iconst 0, 1) := by decide +kernel
theorem dL_line_2 : decode cL_line 2 = .ok (.aload_n 0, 1) := by decide +kernel
theorem dL_line_3 : decode cL_line 3 = .ok (.iload_n 1, 1) := by decide +kernel
theorem dL_line_4 : decode cL_line 4 = .ok (.invokevirtual 73, 3) := by decide +kernel
theorem dL_line_7 : decode cL_line 7 = .ok (.i2l, 1) := by decide +kernel
theorem dL_line_8 : decode cL_line 8 = .ok (.lastore, 1) := by decide +kernel
theorem dL_line_9 : decode cL_line 9 = .ok (.goto 6, 3) := by decide +kernel
theorem dL_line_12 : decode cL_line 12 = .ok (.astore_n 3, 1) := by decide +kernel
theorem dL_line_13 : decode cL_line 13 = .ok (.iconst 1, 1) := by decide +kernel
theorem dL_line_14 : decode cL_line 14 = .ok (.ireturn, 1) := by decide +kernel
theorem dL_line_15 : decode cL_line 15 = .ok (.iconst 0, 1) := by decide +kernel
theorem dL_line_16 : decode cL_line 16 = .ok (.ireturn, 1) := by decide +kernel
set_option maxRecDepth 20000 in
theorem ggL_noLoan_X5_noLoan : GoodIn wsL_noLoan wsX5_noLoan := goodIn_ca (goodIn_r _ [6, 7, 8, 9, 10, 5, 11, 12, 13, 14, 15, 16, 17, 18, 19, 20, 21, 22, 23, 24, 25, 26, 27, 28, 29, 30, 31, 32, 33, 34, 35, 36, 37, 38, 39, 40, 41, 42, 43, 44, 45, 46, 47, 48, 49, 50, 51, 52, 53, 54, 55, 56, 57, 58, 59, 60] (by decide +kernel) (by decide +kernel)) (goodIn_sub (fun _ h => List.mem_cons_of_mem _ (List.mem_append_right _ h)) (by decide +kernel))
set_option maxRecDepth 20000 in
theorem gL_noLoan_X5_noLoan : GoodIn wsL_noLoan (wsV RL 76 RX5 yX5_noLoan wsX5_noLoan) := goodIn_app (goodIn_of _ (by decide +kernel)) ggL_noLoan_X5_noLoan
theorem dL_noLoan_0 : decode cL_noLoan 0 = .ok (.aload_n 3, 1) := by decide +kernel
theorem dL_noLoan_1 : decode cL_noLoan 1 = .ok (.iconst 0, 1) := by decide +kernel
theorem dL_noLoan_2 : decode cL_noLoan 2 = .ok (.aload_n 0, 1) := by decide +kernel
theorem dL_noLoan_3 : decode cL_noLoan 3 = .ok (.iload_n 1, 1) := by decide +kernel
theorem dL_noLoan_4 : decode cL_noLoan 4 = .ok (.iload_n 2, 1) := by decide +kernel
theorem dL_noLoan_5 : decode cL_noLoan 5 = .ok (.invokevirtual 76, 3) := by decide +kernel
theorem dL_noLoan_8 : decode cL_noLoan 8 = .ok (.i2l, 1) := by decide +kernel
theorem dL_noLoan_9 : decode cL_noLoan 9 = .ok (.lastore, 1) := by decide +kernel
theorem dL_noLoan_10 : decode cL_noLoan 10 = .ok (.goto 7, 3) := by decide +kernel
theorem dL_noLoan_13 : decode cL_noLoan 13 = .ok (.astore 4, 2) := by decide +kernel
theorem dL_noLoan_15 : decode cL_noLoan 15 = .ok (.iconst 1, 1) := by decide +kernel
theorem dL_noLoan_16 : decode cL_noLoan 16 = .ok (.ireturn, 1) := by decide +kernel
theorem dL_noLoan_17 : decode cL_noLoan 17 = .ok (.iconst 0, 1) := by decide +kernel
theorem dL_noLoan_18 : decode cL_noLoan 18 = .ok (.ireturn, 1) := by decide +kernel
set_option maxRecDepth 20000 in
theorem ggL_whyNot_X5_whyNot : GoodIn wsL_whyNot wsX5_whyNot := goodIn_ca (goodIn_r _ [6, 7, 8, 9, 10, 5, 11, 12, 13, 14, 15, 16, 17, 18, 19, 20, 21, 22, 23, 24, 25, 26, 27, 28, 29, 30, 31, 32, 33, 34, 35, 36, 37, 38, 39, 40, 41, 42, 43, 44, 45, 46, 47, 48, 49, 50, 51, 52, 53, 54, 55, 56, 57, 58, 59, 60, 61, 62, 63, 64, 65, 66, 67, 68, 69, 70, 71, 72] (by decide +kernel) (by decide +kernel)) (goodIn_sub (fun _ h => List.mem_cons_of_mem _ (List.mem_append_right _ h)) (by decide +kernel))
set_option maxRecDepth 20000 in
theorem gL_whyNot_X5_whyNot : GoodIn wsL_whyNot (wsV RL 79 RX5 yX5_whyNot wsX5_whyNot) := goodIn_app (goodIn_of _ (by decide +kernel)) ggL_whyNot_X5_whyNot
theorem dL_whyNot_0 : decode cL_whyNot 0 = .ok (.aload_n 3, 1) := by decide +kernel
theorem dL_whyNot_1 : decode cL_whyNot 1 = .ok (.iconst 0, 1) := by decide +kernel
theorem dL_whyNot_2 : decode cL_whyNot 2 = .ok (.aload_n 0, 1) := by decide +kernel
theorem dL_whyNot_3 : decode cL_whyNot 3 = .ok (.iload_n 1, 1) := by decide +kernel
theorem dL_whyNot_4 : decode cL_whyNot 4 = .ok (.iload_n 2, 1) := by decide +kernel
theorem dL_whyNot_5 : decode cL_whyNot 5 = .ok (.invokevirtual 79, 3) := by decide +kernel
theorem dL_whyNot_8 : decode cL_whyNot 8 = .ok (.i2l, 1) := by decide +kernel
theorem dL_whyNot_9 : decode cL_whyNot 9 = .ok (.lastore, 1) := by decide +kernel
theorem dL_whyNot_10 : decode cL_whyNot 10 = .ok (.goto 7, 3) := by decide +kernel
theorem dL_whyNot_13 : decode cL_whyNot 13 = .ok (.astore 4, 2) := by decide +kernel
theorem dL_whyNot_15 : decode cL_whyNot 15 = .ok (.iconst 1, 1) := by decide +kernel
theorem dL_whyNot_16 : decode cL_whyNot 16 = .ok (.ireturn, 1) := by decide +kernel
theorem dL_whyNot_17 : decode cL_whyNot 17 = .ok (.iconst 0, 1) := by decide +kernel
theorem dL_whyNot_18 : decode cL_whyNot 18 = .ok (.ireturn, 1) := by decide +kernel
set_option maxRecDepth 20000 in
theorem ggL_ifOpened_X5_ifOpened : GoodIn wsL_ifOpened wsX5_ifOpened := goodIn_ca (goodIn_ca (goodIn_r _ [7, 8, 9, 10, 11, 6, 12, 13, 14, 15, 16, 17, 18, 19, 20, 21, 22, 23, 24, 25, 26, 27, 28, 29, 30, 31, 32, 33, 34, 35, 36, 37, 38, 39, 40, 41, 42, 43, 44, 45, 46, 47, 48, 49, 50, 51, 52, 53, 54, 55, 56, 57, 58, 59, 60, 61, 62, 63, 64, 65, 66, 67, 68, 69, 70, 71, 72, 73, 74, 75, 76, 77, 78, 79, 80, 81, 82, 83, 84, 85, 86, 87, 88, 89, 90, 91, 92, 93, 94, 95, 96, 97, 98, 99, 100, 101, 102, 103, 104, 105, 106, 107, 108, 109] (by decide +kernel) (by decide +kernel)) (goodIn_sub (fun _ h => List.mem_cons_of_mem _ (List.mem_append_left _ (List.mem_append_right _ h))) (by decide +kernel))) (goodIn_sub (fun _ h => List.mem_cons_of_mem _ (List.mem_append_right _ h)) (by decide +kernel))
set_option maxRecDepth 20000 in
theorem gL_ifOpened_X5_ifOpened : GoodIn wsL_ifOpened (wsV RL 83 RX5 yX5_ifOpened wsX5_ifOpened) := goodIn_app (goodIn_of _ (by decide +kernel)) ggL_ifOpened_X5_ifOpened
theorem dL_ifOpened_0 : decode cL_ifOpened 0 = .ok (.aload 4, 2) := by decide +kernel
theorem dL_ifOpened_2 : decode cL_ifOpened 2 = .ok (.iconst 0, 1) := by decide +kernel
theorem dL_ifOpened_3 : decode cL_ifOpened 3 = .ok (.aload_n 0, 1) := by decide +kernel
theorem dL_ifOpened_4 : decode cL_ifOpened 4 = .ok (.iload_n 1, 1) := by decide +kernel
theorem dL_ifOpened_5 : decode cL_ifOpened 5 = .ok (.iload_n 2, 1) := by decide +kernel
theorem dL_ifOpened_6 : decode cL_ifOpened 6 = .ok (.iload_n 3, 1) := by decide +kernel
theorem dL_ifOpened_7 : decode cL_ifOpened 7 = .ok (.invokevirtual 83, 3) := by decide +kernel
theorem dL_ifOpened_10 : decode cL_ifOpened 10 = .ok (.i2l, 1) := by decide +kernel
theorem dL_ifOpened_11 : decode cL_ifOpened 11 = .ok (.lastore, 1) := by decide +kernel
theorem dL_ifOpened_12 : decode cL_ifOpened 12 = .ok (.goto 11, 3) := by decide +kernel
theorem dL_ifOpened_15 : decode cL_ifOpened 15 = .ok (.astore 5, 2) := by decide +kernel
theorem dL_ifOpened_17 : decode cL_ifOpened 17 = .ok (.iconst 1, 1) := by decide +kernel
theorem dL_ifOpened_18 : decode cL_ifOpened 18 = .ok (.ireturn, 1) := by decide +kernel
theorem dL_ifOpened_19 : decode cL_ifOpened 19 = .ok (.astore 5, 2) := by decide +kernel
theorem dL_ifOpened_21 : decode cL_ifOpened 21 = .ok (.iconst 2, 1) := by decide +kernel
theorem dL_ifOpened_22 : decode cL_ifOpened 22 = .ok (.ireturn, 1) := by decide +kernel
theorem dL_ifOpened_23 : decode cL_ifOpened 23 = .ok (.iconst 0, 1) := by decide +kernel
theorem dL_ifOpened_24 : decode cL_ifOpened 24 = .ok (.ireturn, 1) := by decide +kernel
set_option maxRecDepth 20000 in
theorem ggL_bestGate_X5_bestGate : GoodIn wsL_bestGate wsX5_bestGate := goodIn_ca (goodIn_r _ [6, 7, 8, 9, 10, 5, 11, 12, 13, 14, 15, 16, 17, 18, 19, 20, 21, 22, 23, 24, 25, 26, 27, 28, 29, 30, 31, 32, 33, 34, 35, 36, 37, 38, 39, 40, 41, 42, 43, 44, 45, 46, 47, 48, 49, 50, 51, 52, 53, 54, 55, 56, 57, 58, 59, 60, 61, 62, 63, 64, 65, 66, 67, 68, 69, 70, 71, 72, 73, 74, 75, 76, 77, 78, 79, 80, 81, 82] (by decide +kernel) (by decide +kernel)) (goodIn_sub (fun _ h => List.mem_cons_of_mem _ (List.mem_append_right _ h)) (by decide +kernel))
set_option maxRecDepth 20000 in
theorem gL_bestGate_X5_bestGate : GoodIn wsL_bestGate (wsV RL 86 RX5 yX5_bestGate wsX5_bestGate) := goodIn_app (goodIn_of _ (by decide +kernel)) ggL_bestGate_X5_bestGate
theorem dL_bestGate_0 : decode cL_bestGate 0 = .ok (.aload_n 2, 1) := by decide +kernel
theorem dL_bestGate_1 : decode cL_bestGate 1 = .ok (.iconst 0, 1) := by decide +kernel
theorem dL_bestGate_2 : decode cL_bestGate 2 = .ok (.aload_n 0, 1) := by decide +kernel
theorem dL_bestGate_3 : decode cL_bestGate 3 = .ok (.iload_n 1, 1) := by decide +kernel
theorem dL_bestGate_4 : decode cL_bestGate 4 = .ok (.invokevirtual 86, 3) := by decide +kernel
theorem dL_bestGate_7 : decode cL_bestGate 7 = .ok (.i2l, 1) := by decide +kernel
theorem dL_bestGate_8 : decode cL_bestGate 8 = .ok (.lastore, 1) := by decide +kernel
theorem dL_bestGate_9 : decode cL_bestGate 9 = .ok (.goto 6, 3) := by decide +kernel
theorem dL_bestGate_12 : decode cL_bestGate 12 = .ok (.astore_n 3, 1) := by decide +kernel
theorem dL_bestGate_13 : decode cL_bestGate 13 = .ok (.iconst 1, 1) := by decide +kernel
theorem dL_bestGate_14 : decode cL_bestGate 14 = .ok (.ireturn, 1) := by decide +kernel
theorem dL_bestGate_15 : decode cL_bestGate 15 = .ok (.iconst 0, 1) := by decide +kernel
theorem dL_bestGate_16 : decode cL_bestGate 16 = .ok (.ireturn, 1) := by decide +kernel
set_option maxRecDepth 20000 in
theorem ggL_freeIn_X5_freeIn : GoodIn wsL_freeIn wsX5_freeIn := goodIn_ca (goodIn_r _ [6, 7, 8, 9, 10, 5, 11, 12, 13, 14, 15, 16, 17, 18, 19, 20, 21, 22, 23, 24, 25, 26, 27, 28, 29, 30, 31, 32, 33, 34, 35, 36, 37, 38, 39, 40, 41, 42, 43, 44, 45, 46, 47, 48, 49, 50, 51, 52, 53, 54, 55, 56, 57, 58, 59, 60, 61, 62, 63, 64, 65, 66, 67, 68, 69, 70, 71, 72, 73, 74, 75, 76, 77, 78, 79, 80, 81, 82, 83, 84] (by decide +kernel) (by decide +kernel)) (goodIn_sub (fun _ h => List.mem_cons_of_mem _ (List.mem_append_right _ h)) (by decide +kernel))
set_option maxRecDepth 20000 in
theorem gL_freeIn_X5_freeIn : GoodIn wsL_freeIn (wsV RL 89 RX5 yX5_freeIn wsX5_freeIn) := goodIn_app (goodIn_of _ (by decide +kernel)) ggL_freeIn_X5_freeIn
theorem dL_freeIn_0 : decode cL_freeIn 0 = .ok (.aload_n 3, 1) := by decide +kernel
theorem dL_freeIn_1 : decode cL_freeIn 1 = .ok (.iconst 0, 1) := by decide +kernel
theorem dL_freeIn_2 : decode cL_freeIn 2 = .ok (.aload_n 0, 1) := by decide +kernel
theorem dL_freeIn_3 : decode cL_freeIn 3 = .ok (.iload_n 1, 1) := by decide +kernel
theorem dL_freeIn_4 : decode cL_freeIn 4 = .ok (.iload_n 2, 1) := by decide +kernel
theorem dL_freeIn_5 : decode cL_freeIn 5 = .ok (.invokevirtual 89, 3) := by decide +kernel
theorem dL_freeIn_8 : decode cL_freeIn 8 = .ok (.i2l, 1) := by decide +kernel
theorem dL_freeIn_9 : decode cL_freeIn 9 = .ok (.lastore, 1) := by decide +kernel
theorem dL_freeIn_10 : decode cL_freeIn 10 = .ok (.goto 7, 3) := by decide +kernel
theorem dL_freeIn_13 : decode cL_freeIn 13 = .ok (.astore 4, 2) := by decide +kernel
theorem dL_freeIn_15 : decode cL_freeIn 15 = .ok (.iconst 1, 1) := by decide +kernel
theorem dL_freeIn_16 : decode cL_freeIn 16 = .ok (.ireturn, 1) := by decide +kernel
theorem dL_freeIn_17 : decode cL_freeIn 17 = .ok (.iconst 0, 1) := by decide +kernel
theorem dL_freeIn_18 : decode cL_freeIn 18 = .ok (.ireturn, 1) := by decide +kernel
theorem dL_law__0 : decode cL_law_ 0 = .ok (.new 8, 3) := by decide +kernel
theorem dL_law__3 : decode cL_law_ 3 = .ok (.dup, 1) := by decide +kernel
theorem dL_law__4 : decode cL_law_ 4 = .ok (.invokespecial 92, 3) := by decide +kernel
theorem dL_law__7 : decode cL_law_ 7 = .ok (.astore_n 1, 1) := by decide +kernel
theorem dL_law__8 : decode cL_law_ 8 = .ok (.new 93, 3) := by decide +kernel
theorem dL_law__11 : decode cL_law_ 11 = .ok (.dup, 1) := by decide +kernel
theorem dL_law__12 : decode cL_law_ 12 = .ok (.invokespecial 95, 3) := by decide +kernel
theorem dL_law__15 : decode cL_law_ 15 = .ok (.astore_n 2, 1) := by decide +kernel
theorem dL_law__16 : decode cL_law_ 16 = .ok (.iconst 1, 1) := by decide +kernel
theorem dL_law__17 : decode cL_law_ 17 = .ok (.newarray .long, 2) := by decide +kernel
theorem dL_law__19 : decode cL_law_ 19 = .ok (.astore_n 3, 1) := by decide +kernel
theorem dL_law__20 : decode cL_law_ 20 = .ok (.iconst 0, 1) := by decide +kernel
theorem dL_law__21 : decode cL_law_ 21 = .ok (.istore 4, 2) := by decide +kernel
theorem dL_law__23 : decode cL_law_ 23 = .ok (.iload 4, 2) := by decide +kernel
theorem dL_law__25 : decode cL_law_ 25 = .ok (.aload_n 0, 1) := by decide +kernel
theorem dL_law__26 : decode cL_law_ 26 = .ok (.arraylength, 1) := by decide +kernel
theorem dL_law__27 : decode cL_law_ 27 = .ok (.iconst 4, 1) := by decide +kernel
theorem dL_law__28 : decode cL_law_ 28 = .ok (.isub, 1) := by decide +kernel
theorem dL_law__29 : decode cL_law_ 29 = .ok (.if_icmp .gt 1748, 3) := by decide +kernel
theorem dL_law__32 : decode cL_law_ 32 = .ok (.aload_n 0, 1) := by decide +kernel
theorem dL_law__33 : decode cL_law_ 33 = .ok (.iload 4, 2) := by decide +kernel
theorem dL_law__35 : decode cL_law_ 35 = .ok (.iaload, 1) := by decide +kernel
theorem dL_law__36 : decode cL_law_ 36 = .ok (.bipush 31, 2) := by decide +kernel
theorem dL_law__38 : decode cL_law_ 38 = .ok (.iand, 1) := by decide +kernel
theorem dL_law__39 : decode cL_law_ 39 = .ok (.tableswitch 1732 0 29 #[133, 213, 269, 337, 405, 461, 517, 573, 641, 697, 710, 778, 834, 847, 860, 904, 960, 1004, 1017, 1061, 1129, 1209, 1265, 1321, 1389, 1473, 1553, 1609, 1677, 1718], 133) := by decide +kernel
theorem dL_law__172 : decode cL_law_ 172 = .ok (.aload_n 1, 1) := by decide +kernel
theorem dL_law__173 : decode cL_law_ 173 = .ok (.aload_n 0, 1) := by decide +kernel
theorem dL_law__174 : decode cL_law_ 174 = .ok (.iload 4, 2) := by decide +kernel
theorem dL_law__176 : decode cL_law_ 176 = .ok (.iconst 1, 1) := by decide +kernel
theorem dL_law__177 : decode cL_law_ 177 = .ok (.iadd, 1) := by decide +kernel
theorem dL_law__178 : decode cL_law_ 178 = .ok (.iaload, 1) := by decide +kernel
theorem dL_law__179 : decode cL_law_ 179 = .ok (.aload_n 0, 1) := by decide +kernel
theorem dL_law__180 : decode cL_law_ 180 = .ok (.iload 4, 2) := by decide +kernel
theorem dL_law__182 : decode cL_law_ 182 = .ok (.iconst 2, 1) := by decide +kernel
theorem dL_law__183 : decode cL_law_ 183 = .ok (.iadd, 1) := by decide +kernel
theorem dL_law__184 : decode cL_law_ 184 = .ok (.iaload, 1) := by decide +kernel
theorem dL_law__185 : decode cL_law_ 185 = .ok (.aload_n 0, 1) := by decide +kernel
theorem dL_law__186 : decode cL_law_ 186 = .ok (.iload 4, 2) := by decide +kernel
theorem dL_law__188 : decode cL_law_ 188 = .ok (.iconst 3, 1) := by decide +kernel
theorem dL_law__189 : decode cL_law_ 189 = .ok (.iadd, 1) := by decide +kernel
theorem dL_law__190 : decode cL_law_ 190 = .ok (.iaload, 1) := by decide +kernel
theorem dL_law__191 : decode cL_law_ 191 = .ok (.aload_n 3, 1) := by decide +kernel
theorem dL_law__192 : decode cL_law_ 192 = .ok (.invokestatic 96, 3) := by decide +kernel
theorem dL_law__195 : decode cL_law_ 195 = .ok (.istore 5, 2) := by decide +kernel
theorem dL_law__197 : decode cL_law_ 197 = .ok (.aload_n 2, 1) := by decide +kernel
theorem dL_law__198 : decode cL_law_ 198 = .ok (.aload_n 0, 1) := by decide +kernel
theorem dL_law__199 : decode cL_law_ 199 = .ok (.iload 4, 2) := by decide +kernel
theorem dL_law__201 : decode cL_law_ 201 = .ok (.iconst 1, 1) := by decide +kernel
theorem dL_law__202 : decode cL_law_ 202 = .ok (.iadd, 1) := by decide +kernel
theorem dL_law__203 : decode cL_law_ 203 = .ok (.iaload, 1) := by decide +kernel
theorem dL_law__204 : decode cL_law_ 204 = .ok (.aload_n 0, 1) := by decide +kernel
theorem dL_law__205 : decode cL_law_ 205 = .ok (.iload 4, 2) := by decide +kernel
theorem dL_law__207 : decode cL_law_ 207 = .ok (.iconst 2, 1) := by decide +kernel
theorem dL_law__208 : decode cL_law_ 208 = .ok (.iadd, 1) := by decide +kernel
theorem dL_law__209 : decode cL_law_ 209 = .ok (.iaload, 1) := by decide +kernel
theorem dL_law__210 : decode cL_law_ 210 = .ok (.aload_n 0, 1) := by decide +kernel
theorem dL_law__211 : decode cL_law_ 211 = .ok (.iload 4, 2) := by decide +kernel
theorem dL_law__213 : decode cL_law_ 213 = .ok (.iconst 3, 1) := by decide +kernel
theorem dL_law__214 : decode cL_law_ 214 = .ok (.iadd, 1) := by decide +kernel
theorem dL_law__215 : decode cL_law_ 215 = .ok (.iaload, 1) := by decide +kernel
theorem dL_law__216 : decode cL_law_ 216 = .ok (.invokevirtual 101, 3) := by decide +kernel
theorem dL_law__219 : decode cL_law_ 219 = .ok (.istore 6, 2) := by decide +kernel
theorem dL_law__221 : decode cL_law_ 221 = .ok (.aload_n 2, 1) := by decide +kernel
theorem dL_law__222 : decode cL_law_ 222 = .ok (.invokevirtual 102, 3) := by decide +kernel
theorem dL_law__225 : decode cL_law_ 225 = .ok (.iload 5, 2) := by decide +kernel
theorem dL_law__227 : decode cL_law_ 227 = .ok (.if_icmp .eq 5, 3) := by decide +kernel
theorem dL_law__230 : decode cL_law_ 230 = .ok (.iconst 0, 1) := by decide +kernel
theorem dL_law__231 : decode cL_law_ 231 = .ok (.ireturn, 1) := by decide +kernel
theorem dL_law__232 : decode cL_law_ 232 = .ok (.iload 5, 2) := by decide +kernel
theorem dL_law__234 : decode cL_law_ 234 = .ok (.ifCond .ne 15, 3) := by decide +kernel
theorem dL_law__237 : decode cL_law_ 237 = .ok (.aload_n 3, 1) := by decide +kernel
theorem dL_law__238 : decode cL_law_ 238 = .ok (.iconst 0, 1) := by decide +kernel
theorem dL_law__239 : decode cL_law_ 239 = .ok (.laload, 1) := by decide +kernel
theorem dL_law__240 : decode cL_law_ 240 = .ok (.iload 6, 2) := by decide +kernel
theorem dL_law__242 : decode cL_law_ 242 = .ok (.i2l, 1) := by decide +kernel
theorem dL_law__243 : decode cL_law_ 243 = .ok (.lcmp, 1) := by decide +kernel
theorem dL_law__244 : decode cL_law_ 244 = .ok (.ifCond .eq 5, 3) := by decide +kernel
theorem dL_law__247 : decode cL_law_ 247 = .ok (.iconst 0, 1) := by decide +kernel
theorem dL_law__248 : decode cL_law_ 248 = .ok (.ireturn, 1) := by decide +kernel
theorem dL_law__249 : decode cL_law_ 249 = .ok (.goto 1522, 3) := by decide +kernel
theorem dL_law__252 : decode cL_law_ 252 = .ok (.aload_n 1, 1) := by decide +kernel
theorem dL_law__253 : decode cL_law_ 253 = .ok (.aload_n 0, 1) := by decide +kernel
theorem dL_law__254 : decode cL_law_ 254 = .ok (.iload 4, 2) := by decide +kernel
theorem dL_law__256 : decode cL_law_ 256 = .ok (.iconst 1, 1) := by decide +kernel
theorem dL_law__257 : decode cL_law_ 257 = .ok (.iadd, 1) := by decide +kernel
theorem dL_law__258 : decode cL_law_ 258 = .ok (.iaload, 1) := by decide +kernel
theorem dL_law__259 : decode cL_law_ 259 = .ok (.aload_n 3, 1) := by decide +kernel
theorem dL_law__260 : decode cL_law_ 260 = .ok (.invokestatic 105, 3) := by decide +kernel
theorem dL_law__263 : decode cL_law_ 263 = .ok (.istore 5, 2) := by decide +kernel
theorem dL_law__265 : decode cL_law_ 265 = .ok (.aload_n 2, 1) := by decide +kernel
theorem dL_law__266 : decode cL_law_ 266 = .ok (.aload_n 0, 1) := by decide +kernel
theorem dL_law__267 : decode cL_law_ 267 = .ok (.iload 4, 2) := by decide +kernel
theorem dL_law__269 : decode cL_law_ 269 = .ok (.iconst 1, 1) := by decide +kernel
theorem dL_law__270 : decode cL_law_ 270 = .ok (.iadd, 1) := by decide +kernel
theorem dL_law__271 : decode cL_law_ 271 = .ok (.iaload, 1) := by decide +kernel
theorem dL_law__272 : decode cL_law_ 272 = .ok (.invokevirtual 108, 3) := by decide +kernel
theorem dL_law__275 : decode cL_law_ 275 = .ok (.istore 6, 2) := by decide +kernel
theorem dL_law__277 : decode cL_law_ 277 = .ok (.aload_n 2, 1) := by decide +kernel
theorem dL_law__278 : decode cL_law_ 278 = .ok (.invokevirtual 102, 3) := by decide +kernel
theorem dL_law__281 : decode cL_law_ 281 = .ok (.iload 5, 2) := by decide +kernel
theorem dL_law__283 : decode cL_law_ 283 = .ok (.if_icmp .eq 5, 3) := by decide +kernel
theorem dL_law__286 : decode cL_law_ 286 = .ok (.iconst 0, 1) := by decide +kernel
theorem dL_law__287 : decode cL_law_ 287 = .ok (.ireturn, 1) := by decide +kernel
theorem dL_law__288 : decode cL_law_ 288 = .ok (.iload 5, 2) := by decide +kernel
theorem dL_law__290 : decode cL_law_ 290 = .ok (.ifCond .ne 15, 3) := by decide +kernel
theorem dL_law__293 : decode cL_law_ 293 = .ok (.aload_n 3, 1) := by decide +kernel
theorem dL_law__294 : decode cL_law_ 294 = .ok (.iconst 0, 1) := by decide +kernel
theorem dL_law__295 : decode cL_law_ 295 = .ok (.laload, 1) := by decide +kernel
theorem dL_law__296 : decode cL_law_ 296 = .ok (.iload 6, 2) := by decide +kernel
theorem dL_law__298 : decode cL_law_ 298 = .ok (.i2l, 1) := by decide +kernel
theorem dL_law__299 : decode cL_law_ 299 = .ok (.lcmp, 1) := by decide +kernel
theorem dL_law__300 : decode cL_law_ 300 = .ok (.ifCond .eq 5, 3) := by decide +kernel
theorem dL_law__303 : decode cL_law_ 303 = .ok (.iconst 0, 1) := by decide +kernel
theorem dL_law__304 : decode cL_law_ 304 = .ok (.ireturn, 1) := by decide +kernel
theorem dL_law__305 : decode cL_law_ 305 = .ok (.goto 1466, 3) := by decide +kernel
theorem dL_law__308 : decode cL_law_ 308 = .ok (.aload_n 1, 1) := by decide +kernel
theorem dL_law__309 : decode cL_law_ 309 = .ok (.aload_n 0, 1) := by decide +kernel
theorem dL_law__310 : decode cL_law_ 310 = .ok (.iload 4, 2) := by decide +kernel
theorem dL_law__312 : decode cL_law_ 312 = .ok (.iconst 1, 1) := by decide +kernel
theorem dL_law__313 : decode cL_law_ 313 = .ok (.iadd, 1) := by decide +kernel
theorem dL_law__314 : decode cL_law_ 314 = .ok (.iaload, 1) := by decide +kernel
theorem dL_law__315 : decode cL_law_ 315 = .ok (.aload_n 0, 1) := by decide +kernel
theorem dL_law__316 : decode cL_law_ 316 = .ok (.iload 4, 2) := by decide +kernel
theorem dL_law__318 : decode cL_law_ 318 = .ok (.iconst 2, 1) := by decide +kernel
theorem dL_law__319 : decode cL_law_ 319 = .ok (.iadd, 1) := by decide +kernel
theorem dL_law__320 : decode cL_law_ 320 = .ok (.iaload, 1) := by decide +kernel
theorem dL_law__321 : decode cL_law_ 321 = .ok (.aload_n 3, 1) := by decide +kernel
theorem dL_law__322 : decode cL_law_ 322 = .ok (.invokestatic 109, 3) := by decide +kernel
theorem dL_law__325 : decode cL_law_ 325 = .ok (.istore 5, 2) := by decide +kernel
theorem dL_law__327 : decode cL_law_ 327 = .ok (.aload_n 2, 1) := by decide +kernel
theorem dL_law__328 : decode cL_law_ 328 = .ok (.aload_n 0, 1) := by decide +kernel
theorem dL_law__329 : decode cL_law_ 329 = .ok (.iload 4, 2) := by decide +kernel
theorem dL_law__331 : decode cL_law_ 331 = .ok (.iconst 1, 1) := by decide +kernel
theorem dL_law__332 : decode cL_law_ 332 = .ok (.iadd, 1) := by decide +kernel
theorem dL_law__333 : decode cL_law_ 333 = .ok (.iaload, 1) := by decide +kernel
theorem dL_law__334 : decode cL_law_ 334 = .ok (.aload_n 0, 1) := by decide +kernel
theorem dL_law__335 : decode cL_law_ 335 = .ok (.iload 4, 2) := by decide +kernel
theorem dL_law__337 : decode cL_law_ 337 = .ok (.iconst 2, 1) := by decide +kernel
theorem dL_law__338 : decode cL_law_ 338 = .ok (.iadd, 1) := by decide +kernel
theorem dL_law__339 : decode cL_law_ 339 = .ok (.iaload, 1) := by decide +kernel
theorem dL_law__340 : decode cL_law_ 340 = .ok (.invokevirtual 112, 3) := by decide +kernel
theorem dL_law__343 : decode cL_law_ 343 = .ok (.istore 6, 2) := by decide +kernel
theorem dL_law__345 : decode cL_law_ 345 = .ok (.aload_n 2, 1) := by decide +kernel
theorem dL_law__346 : decode cL_law_ 346 = .ok (.invokevirtual 102, 3) := by decide +kernel
theorem dL_law__349 : decode cL_law_ 349 = .ok (.iload 5, 2) := by decide +kernel
theorem dL_law__351 : decode cL_law_ 351 = .ok (.if_icmp .eq 5, 3) := by decide +kernel
theorem dL_law__354 : decode cL_law_ 354 = .ok (.iconst 0, 1) := by decide +kernel
theorem dL_law__355 : decode cL_law_ 355 = .ok (.ireturn, 1) := by decide +kernel
theorem dL_law__356 : decode cL_law_ 356 = .ok (.iload 5, 2) := by decide +kernel
theorem dL_law__358 : decode cL_law_ 358 = .ok (.ifCond .ne 15, 3) := by decide +kernel
theorem dL_law__361 : decode cL_law_ 361 = .ok (.aload_n 3, 1) := by decide +kernel
theorem dL_law__362 : decode cL_law_ 362 = .ok (.iconst 0, 1) := by decide +kernel
theorem dL_law__363 : decode cL_law_ 363 = .ok (.laload, 1) := by decide +kernel
theorem dL_law__364 : decode cL_law_ 364 = .ok (.iload 6, 2) := by decide +kernel
theorem dL_law__366 : decode cL_law_ 366 = .ok (.i2l, 1) := by decide +kernel
theorem dL_law__367 : decode cL_law_ 367 = .ok (.lcmp, 1) := by decide +kernel
theorem dL_law__368 : decode cL_law_ 368 = .ok (.ifCond .eq 5, 3) := by decide +kernel
theorem dL_law__371 : decode cL_law_ 371 = .ok (.iconst 0, 1) := by decide +kernel
theorem dL_law__372 : decode cL_law_ 372 = .ok (.ireturn, 1) := by decide +kernel
theorem dL_law__373 : decode cL_law_ 373 = .ok (.goto 1398, 3) := by decide +kernel
theorem dL_law__376 : decode cL_law_ 376 = .ok (.aload_n 1, 1) := by decide +kernel
theorem dL_law__377 : decode cL_law_ 377 = .ok (.aload_n 0, 1) := by decide +kernel
theorem dL_law__378 : decode cL_law_ 378 = .ok (.iload 4, 2) := by decide +kernel
theorem dL_law__380 : decode cL_law_ 380 = .ok (.iconst 1, 1) := by decide +kernel
theorem dL_law__381 : decode cL_law_ 381 = .ok (.iadd, 1) := by decide +kernel
theorem dL_law__382 : decode cL_law_ 382 = .ok (.iaload, 1) := by decide +kernel
theorem dL_law__383 : decode cL_law_ 383 = .ok (.aload_n 0, 1) := by decide +kernel
theorem dL_law__384 : decode cL_law_ 384 = .ok (.iload 4, 2) := by decide +kernel
theorem dL_law__386 : decode cL_law_ 386 = .ok (.iconst 2, 1) := by decide +kernel
theorem dL_law__387 : decode cL_law_ 387 = .ok (.iadd, 1) := by decide +kernel
theorem dL_law__388 : decode cL_law_ 388 = .ok (.iaload, 1) := by decide +kernel
theorem dL_law__389 : decode cL_law_ 389 = .ok (.aload_n 3, 1) := by decide +kernel
theorem dL_law__390 : decode cL_law_ 390 = .ok (.invokestatic 113, 3) := by decide +kernel
theorem dL_law__393 : decode cL_law_ 393 = .ok (.istore 5, 2) := by decide +kernel
theorem dL_law__395 : decode cL_law_ 395 = .ok (.aload_n 2, 1) := by decide +kernel
theorem dL_law__396 : decode cL_law_ 396 = .ok (.aload_n 0, 1) := by decide +kernel
theorem dL_law__397 : decode cL_law_ 397 = .ok (.iload 4, 2) := by decide +kernel
theorem dL_law__399 : decode cL_law_ 399 = .ok (.iconst 1, 1) := by decide +kernel
theorem dL_law__400 : decode cL_law_ 400 = .ok (.iadd, 1) := by decide +kernel
theorem dL_law__401 : decode cL_law_ 401 = .ok (.iaload, 1) := by decide +kernel
theorem dL_law__402 : decode cL_law_ 402 = .ok (.aload_n 0, 1) := by decide +kernel
theorem dL_law__403 : decode cL_law_ 403 = .ok (.iload 4, 2) := by decide +kernel
theorem dL_law__405 : decode cL_law_ 405 = .ok (.iconst 2, 1) := by decide +kernel
theorem dL_law__406 : decode cL_law_ 406 = .ok (.iadd, 1) := by decide +kernel
theorem dL_law__407 : decode cL_law_ 407 = .ok (.iaload, 1) := by decide +kernel
theorem dL_law__408 : decode cL_law_ 408 = .ok (.invokevirtual 115, 3) := by decide +kernel
theorem dL_law__411 : decode cL_law_ 411 = .ok (.istore 6, 2) := by decide +kernel
theorem dL_law__413 : decode cL_law_ 413 = .ok (.aload_n 2, 1) := by decide +kernel
theorem dL_law__414 : decode cL_law_ 414 = .ok (.invokevirtual 102, 3) := by decide +kernel
theorem dL_law__417 : decode cL_law_ 417 = .ok (.iload 5, 2) := by decide +kernel
theorem dL_law__419 : decode cL_law_ 419 = .ok (.if_icmp .eq 5, 3) := by decide +kernel
theorem dL_law__422 : decode cL_law_ 422 = .ok (.iconst 0, 1) := by decide +kernel
theorem dL_law__423 : decode cL_law_ 423 = .ok (.ireturn, 1) := by decide +kernel
theorem dL_law__424 : decode cL_law_ 424 = .ok (.iload 5, 2) := by decide +kernel
theorem dL_law__426 : decode cL_law_ 426 = .ok (.ifCond .ne 15, 3) := by decide +kernel
theorem dL_law__429 : decode cL_law_ 429 = .ok (.aload_n 3, 1) := by decide +kernel
theorem dL_law__430 : decode cL_law_ 430 = .ok (.iconst 0, 1) := by decide +kernel
theorem dL_law__431 : decode cL_law_ 431 = .ok (.laload, 1) := by decide +kernel
theorem dL_law__432 : decode cL_law_ 432 = .ok (.iload 6, 2) := by decide +kernel
theorem dL_law__434 : decode cL_law_ 434 = .ok (.i2l, 1) := by decide +kernel
theorem dL_law__435 : decode cL_law_ 435 = .ok (.lcmp, 1) := by decide +kernel
theorem dL_law__436 : decode cL_law_ 436 = .ok (.ifCond .eq 5, 3) := by decide +kernel
theorem dL_law__439 : decode cL_law_ 439 = .ok (.iconst 0, 1) := by decide +kernel
theorem dL_law__440 : decode cL_law_ 440 = .ok (.ireturn, 1) := by decide +kernel
theorem dL_law__441 : decode cL_law_ 441 = .ok (.goto 1330, 3) := by decide +kernel
theorem dL_law__444 : decode cL_law_ 444 = .ok (.aload_n 1, 1) := by decide +kernel
theorem dL_law__445 : decode cL_law_ 445 = .ok (.aload_n 0, 1) := by decide +kernel
theorem dL_law__446 : decode cL_law_ 446 = .ok (.iload 4, 2) := by decide +kernel
theorem dL_law__448 : decode cL_law_ 448 = .ok (.iconst 1, 1) := by decide +kernel
theorem dL_law__449 : decode cL_law_ 449 = .ok (.iadd, 1) := by decide +kernel
theorem dL_law__450 : decode cL_law_ 450 = .ok (.iaload, 1) := by decide +kernel
theorem dL_law__451 : decode cL_law_ 451 = .ok (.aload_n 3, 1) := by decide +kernel
theorem dL_law__452 : decode cL_law_ 452 = .ok (.invokestatic 116, 3) := by decide +kernel
theorem dL_law__455 : decode cL_law_ 455 = .ok (.istore 5, 2) := by decide +kernel
theorem dL_law__457 : decode cL_law_ 457 = .ok (.aload_n 2, 1) := by decide +kernel
theorem dL_law__458 : decode cL_law_ 458 = .ok (.aload_n 0, 1) := by decide +kernel
theorem dL_law__459 : decode cL_law_ 459 = .ok (.iload 4, 2) := by decide +kernel
theorem dL_law__461 : decode cL_law_ 461 = .ok (.iconst 1, 1) := by decide +kernel
theorem dL_law__462 : decode cL_law_ 462 = .ok (.iadd, 1) := by decide +kernel
theorem dL_law__463 : decode cL_law_ 463 = .ok (.iaload, 1) := by decide +kernel
theorem dL_law__464 : decode cL_law_ 464 = .ok (.invokevirtual 118, 3) := by decide +kernel
theorem dL_law__467 : decode cL_law_ 467 = .ok (.istore 6, 2) := by decide +kernel
theorem dL_law__469 : decode cL_law_ 469 = .ok (.aload_n 2, 1) := by decide +kernel
theorem dL_law__470 : decode cL_law_ 470 = .ok (.invokevirtual 102, 3) := by decide +kernel
theorem dL_law__473 : decode cL_law_ 473 = .ok (.iload 5, 2) := by decide +kernel
theorem dL_law__475 : decode cL_law_ 475 = .ok (.if_icmp .eq 5, 3) := by decide +kernel
theorem dL_law__478 : decode cL_law_ 478 = .ok (.iconst 0, 1) := by decide +kernel
theorem dL_law__479 : decode cL_law_ 479 = .ok (.ireturn, 1) := by decide +kernel
theorem dL_law__480 : decode cL_law_ 480 = .ok (.iload 5, 2) := by decide +kernel
theorem dL_law__482 : decode cL_law_ 482 = .ok (.ifCond .ne 15, 3) := by decide +kernel
theorem dL_law__485 : decode cL_law_ 485 = .ok (.aload_n 3, 1) := by decide +kernel
theorem dL_law__486 : decode cL_law_ 486 = .ok (.iconst 0, 1) := by decide +kernel
theorem dL_law__487 : decode cL_law_ 487 = .ok (.laload, 1) := by decide +kernel
theorem dL_law__488 : decode cL_law_ 488 = .ok (.iload 6, 2) := by decide +kernel
theorem dL_law__490 : decode cL_law_ 490 = .ok (.i2l, 1) := by decide +kernel
theorem dL_law__491 : decode cL_law_ 491 = .ok (.lcmp, 1) := by decide +kernel
theorem dL_law__492 : decode cL_law_ 492 = .ok (.ifCond .eq 5, 3) := by decide +kernel
theorem dL_law__495 : decode cL_law_ 495 = .ok (.iconst 0, 1) := by decide +kernel
theorem dL_law__496 : decode cL_law_ 496 = .ok (.ireturn, 1) := by decide +kernel
theorem dL_law__497 : decode cL_law_ 497 = .ok (.goto 1274, 3) := by decide +kernel
theorem dL_law__500 : decode cL_law_ 500 = .ok (.aload_n 1, 1) := by decide +kernel
theorem dL_law__501 : decode cL_law_ 501 = .ok (.aload_n 0, 1) := by decide +kernel
theorem dL_law__502 : decode cL_law_ 502 = .ok (.iload 4, 2) := by decide +kernel
theorem dL_law__504 : decode cL_law_ 504 = .ok (.iconst 1, 1) := by decide +kernel
theorem dL_law__505 : decode cL_law_ 505 = .ok (.iadd, 1) := by decide +kernel
theorem dL_law__506 : decode cL_law_ 506 = .ok (.iaload, 1) := by decide +kernel
theorem dL_law__507 : decode cL_law_ 507 = .ok (.aload_n 3, 1) := by decide +kernel
theorem dL_law__508 : decode cL_law_ 508 = .ok (.invokestatic 119, 3) := by decide +kernel
theorem dL_law__511 : decode cL_law_ 511 = .ok (.istore 5, 2) := by decide +kernel
theorem dL_law__513 : decode cL_law_ 513 = .ok (.aload_n 2, 1) := by decide +kernel
theorem dL_law__514 : decode cL_law_ 514 = .ok (.aload_n 0, 1) := by decide +kernel
theorem dL_law__515 : decode cL_law_ 515 = .ok (.iload 4, 2) := by decide +kernel
theorem dL_law__517 : decode cL_law_ 517 = .ok (.iconst 1, 1) := by decide +kernel
theorem dL_law__518 : decode cL_law_ 518 = .ok (.iadd, 1) := by decide +kernel
theorem dL_law__519 : decode cL_law_ 519 = .ok (.iaload, 1) := by decide +kernel
theorem dL_law__520 : decode cL_law_ 520 = .ok (.invokevirtual 121, 3) := by decide +kernel
theorem dL_law__523 : decode cL_law_ 523 = .ok (.istore 6, 2) := by decide +kernel
theorem dL_law__525 : decode cL_law_ 525 = .ok (.aload_n 2, 1) := by decide +kernel
theorem dL_law__526 : decode cL_law_ 526 = .ok (.invokevirtual 102, 3) := by decide +kernel
theorem dL_law__529 : decode cL_law_ 529 = .ok (.iload 5, 2) := by decide +kernel
theorem dL_law__531 : decode cL_law_ 531 = .ok (.if_icmp .eq 5, 3) := by decide +kernel
theorem dL_law__534 : decode cL_law_ 534 = .ok (.iconst 0, 1) := by decide +kernel
theorem dL_law__535 : decode cL_law_ 535 = .ok (.ireturn, 1) := by decide +kernel
theorem dL_law__536 : decode cL_law_ 536 = .ok (.iload 5, 2) := by decide +kernel
theorem dL_law__538 : decode cL_law_ 538 = .ok (.ifCond .ne 15, 3) := by decide +kernel
theorem dL_law__541 : decode cL_law_ 541 = .ok (.aload_n 3, 1) := by decide +kernel
theorem dL_law__542 : decode cL_law_ 542 = .ok (.iconst 0, 1) := by decide +kernel
theorem dL_law__543 : decode cL_law_ 543 = .ok (.laload, 1) := by decide +kernel
theorem dL_law__544 : decode cL_law_ 544 = .ok (.iload 6, 2) := by decide +kernel
theorem dL_law__546 : decode cL_law_ 546 = .ok (.i2l, 1) := by decide +kernel
theorem dL_law__547 : decode cL_law_ 547 = .ok (.lcmp, 1) := by decide +kernel
theorem dL_law__548 : decode cL_law_ 548 = .ok (.ifCond .eq 5, 3) := by decide +kernel
theorem dL_law__551 : decode cL_law_ 551 = .ok (.iconst 0, 1) := by decide +kernel
theorem dL_law__552 : decode cL_law_ 552 = .ok (.ireturn, 1) := by decide +kernel
theorem dL_law__553 : decode cL_law_ 553 = .ok (.goto 1218, 3) := by decide +kernel
theorem dL_law__556 : decode cL_law_ 556 = .ok (.aload_n 1, 1) := by decide +kernel
theorem dL_law__557 : decode cL_law_ 557 = .ok (.aload_n 0, 1) := by decide +kernel
theorem dL_law__558 : decode cL_law_ 558 = .ok (.iload 4, 2) := by decide +kernel
theorem dL_law__560 : decode cL_law_ 560 = .ok (.iconst 1, 1) := by decide +kernel
theorem dL_law__561 : decode cL_law_ 561 = .ok (.iadd, 1) := by decide +kernel
theorem dL_law__562 : decode cL_law_ 562 = .ok (.iaload, 1) := by decide +kernel
theorem dL_law__563 : decode cL_law_ 563 = .ok (.aload_n 3, 1) := by decide +kernel
theorem dL_law__564 : decode cL_law_ 564 = .ok (.invokestatic 122, 3) := by decide +kernel
theorem dL_law__567 : decode cL_law_ 567 = .ok (.istore 5, 2) := by decide +kernel
theorem dL_law__569 : decode cL_law_ 569 = .ok (.aload_n 2, 1) := by decide +kernel
theorem dL_law__570 : decode cL_law_ 570 = .ok (.aload_n 0, 1) := by decide +kernel
theorem dL_law__571 : decode cL_law_ 571 = .ok (.iload 4, 2) := by decide +kernel
theorem dL_law__573 : decode cL_law_ 573 = .ok (.iconst 1, 1) := by decide +kernel
theorem dL_law__574 : decode cL_law_ 574 = .ok (.iadd, 1) := by decide +kernel
theorem dL_law__575 : decode cL_law_ 575 = .ok (.iaload, 1) := by decide +kernel
theorem dL_law__576 : decode cL_law_ 576 = .ok (.invokevirtual 124, 3) := by decide +kernel
theorem dL_law__579 : decode cL_law_ 579 = .ok (.istore 6, 2) := by decide +kernel
theorem dL_law__581 : decode cL_law_ 581 = .ok (.aload_n 2, 1) := by decide +kernel
theorem dL_law__582 : decode cL_law_ 582 = .ok (.invokevirtual 102, 3) := by decide +kernel
theorem dL_law__585 : decode cL_law_ 585 = .ok (.iload 5, 2) := by decide +kernel
theorem dL_law__587 : decode cL_law_ 587 = .ok (.if_icmp .eq 5, 3) := by decide +kernel
theorem dL_law__590 : decode cL_law_ 590 = .ok (.iconst 0, 1) := by decide +kernel
theorem dL_law__591 : decode cL_law_ 591 = .ok (.ireturn, 1) := by decide +kernel
theorem dL_law__592 : decode cL_law_ 592 = .ok (.iload 5, 2) := by decide +kernel
theorem dL_law__594 : decode cL_law_ 594 = .ok (.ifCond .ne 15, 3) := by decide +kernel
theorem dL_law__597 : decode cL_law_ 597 = .ok (.aload_n 3, 1) := by decide +kernel
theorem dL_law__598 : decode cL_law_ 598 = .ok (.iconst 0, 1) := by decide +kernel
theorem dL_law__599 : decode cL_law_ 599 = .ok (.laload, 1) := by decide +kernel
theorem dL_law__600 : decode cL_law_ 600 = .ok (.iload 6, 2) := by decide +kernel
theorem dL_law__602 : decode cL_law_ 602 = .ok (.i2l, 1) := by decide +kernel
theorem dL_law__603 : decode cL_law_ 603 = .ok (.lcmp, 1) := by decide +kernel
theorem dL_law__604 : decode cL_law_ 604 = .ok (.ifCond .eq 5, 3) := by decide +kernel
theorem dL_law__607 : decode cL_law_ 607 = .ok (.iconst 0, 1) := by decide +kernel
theorem dL_law__608 : decode cL_law_ 608 = .ok (.ireturn, 1) := by decide +kernel
theorem dL_law__609 : decode cL_law_ 609 = .ok (.goto 1162, 3) := by decide +kernel
theorem dL_law__612 : decode cL_law_ 612 = .ok (.aload_n 1, 1) := by decide +kernel
theorem dL_law__613 : decode cL_law_ 613 = .ok (.aload_n 0, 1) := by decide +kernel
theorem dL_law__614 : decode cL_law_ 614 = .ok (.iload 4, 2) := by decide +kernel
theorem dL_law__616 : decode cL_law_ 616 = .ok (.iconst 1, 1) := by decide +kernel
theorem dL_law__617 : decode cL_law_ 617 = .ok (.iadd, 1) := by decide +kernel
theorem dL_law__618 : decode cL_law_ 618 = .ok (.iaload, 1) := by decide +kernel
theorem dL_law__619 : decode cL_law_ 619 = .ok (.aload_n 0, 1) := by decide +kernel
theorem dL_law__620 : decode cL_law_ 620 = .ok (.iload 4, 2) := by decide +kernel
theorem dL_law__622 : decode cL_law_ 622 = .ok (.iconst 2, 1) := by decide +kernel
theorem dL_law__623 : decode cL_law_ 623 = .ok (.iadd, 1) := by decide +kernel
theorem dL_law__624 : decode cL_law_ 624 = .ok (.iaload, 1) := by decide +kernel
theorem dL_law__625 : decode cL_law_ 625 = .ok (.aload_n 3, 1) := by decide +kernel
theorem dL_law__626 : decode cL_law_ 626 = .ok (.invokestatic 125, 3) := by decide +kernel
theorem dL_law__629 : decode cL_law_ 629 = .ok (.istore 5, 2) := by decide +kernel
theorem dL_law__631 : decode cL_law_ 631 = .ok (.aload_n 2, 1) := by decide +kernel
theorem dL_law__632 : decode cL_law_ 632 = .ok (.aload_n 0, 1) := by decide +kernel
theorem dL_law__633 : decode cL_law_ 633 = .ok (.iload 4, 2) := by decide +kernel
theorem dL_law__635 : decode cL_law_ 635 = .ok (.iconst 1, 1) := by decide +kernel
theorem dL_law__636 : decode cL_law_ 636 = .ok (.iadd, 1) := by decide +kernel
theorem dL_law__637 : decode cL_law_ 637 = .ok (.iaload, 1) := by decide +kernel
theorem dL_law__638 : decode cL_law_ 638 = .ok (.aload_n 0, 1) := by decide +kernel
theorem dL_law__639 : decode cL_law_ 639 = .ok (.iload 4, 2) := by decide +kernel
theorem dL_law__641 : decode cL_law_ 641 = .ok (.iconst 2, 1) := by decide +kernel
theorem dL_law__642 : decode cL_law_ 642 = .ok (.iadd, 1) := by decide +kernel
theorem dL_law__643 : decode cL_law_ 643 = .ok (.iaload, 1) := by decide +kernel
theorem dL_law__644 : decode cL_law_ 644 = .ok (.invokevirtual 127, 3) := by decide +kernel
theorem dL_law__647 : decode cL_law_ 647 = .ok (.istore 6, 2) := by decide +kernel
theorem dL_law__649 : decode cL_law_ 649 = .ok (.aload_n 2, 1) := by decide +kernel
theorem dL_law__650 : decode cL_law_ 650 = .ok (.invokevirtual 102, 3) := by decide +kernel
theorem dL_law__653 : decode cL_law_ 653 = .ok (.iload 5, 2) := by decide +kernel
theorem dL_law__655 : decode cL_law_ 655 = .ok (.if_icmp .eq 5, 3) := by decide +kernel
theorem dL_law__658 : decode cL_law_ 658 = .ok (.iconst 0, 1) := by decide +kernel
theorem dL_law__659 : decode cL_law_ 659 = .ok (.ireturn, 1) := by decide +kernel
theorem dL_law__660 : decode cL_law_ 660 = .ok (.iload 5, 2) := by decide +kernel
theorem dL_law__662 : decode cL_law_ 662 = .ok (.ifCond .ne 15, 3) := by decide +kernel
theorem dL_law__665 : decode cL_law_ 665 = .ok (.aload_n 3, 1) := by decide +kernel
theorem dL_law__666 : decode cL_law_ 666 = .ok (.iconst 0, 1) := by decide +kernel
theorem dL_law__667 : decode cL_law_ 667 = .ok (.laload, 1) := by decide +kernel
theorem dL_law__668 : decode cL_law_ 668 = .ok (.iload 6, 2) := by decide +kernel
theorem dL_law__670 : decode cL_law_ 670 = .ok (.i2l, 1) := by decide +kernel
theorem dL_law__671 : decode cL_law_ 671 = .ok (.lcmp, 1) := by decide +kernel
theorem dL_law__672 : decode cL_law_ 672 = .ok (.ifCond .eq 5, 3) := by decide +kernel
theorem dL_law__675 : decode cL_law_ 675 = .ok (.iconst 0, 1) := by decide +kernel
theorem dL_law__676 : decode cL_law_ 676 = .ok (.ireturn, 1) := by decide +kernel
theorem dL_law__677 : decode cL_law_ 677 = .ok (.goto 1094, 3) := by decide +kernel
theorem dL_law__680 : decode cL_law_ 680 = .ok (.aload_n 1, 1) := by decide +kernel
theorem dL_law__681 : decode cL_law_ 681 = .ok (.aload_n 0, 1) := by decide +kernel
theorem dL_law__682 : decode cL_law_ 682 = .ok (.iload 4, 2) := by decide +kernel
theorem dL_law__684 : decode cL_law_ 684 = .ok (.iconst 1, 1) := by decide +kernel
theorem dL_law__685 : decode cL_law_ 685 = .ok (.iadd, 1) := by decide +kernel
theorem dL_law__686 : decode cL_law_ 686 = .ok (.iaload, 1) := by decide +kernel
theorem dL_law__687 : decode cL_law_ 687 = .ok (.aload_n 3, 1) := by decide +kernel
theorem dL_law__688 : decode cL_law_ 688 = .ok (.invokestatic 128, 3) := by decide +kernel
theorem dL_law__691 : decode cL_law_ 691 = .ok (.istore 5, 2) := by decide +kernel
theorem dL_law__693 : decode cL_law_ 693 = .ok (.aload_n 2, 1) := by decide +kernel
theorem dL_law__694 : decode cL_law_ 694 = .ok (.aload_n 0, 1) := by decide +kernel
theorem dL_law__695 : decode cL_law_ 695 = .ok (.iload 4, 2) := by decide +kernel
theorem dL_law__697 : decode cL_law_ 697 = .ok (.iconst 1, 1) := by decide +kernel
theorem dL_law__698 : decode cL_law_ 698 = .ok (.iadd, 1) := by decide +kernel
theorem dL_law__699 : decode cL_law_ 699 = .ok (.iaload, 1) := by decide +kernel
theorem dL_law__700 : decode cL_law_ 700 = .ok (.invokevirtual 130, 3) := by decide +kernel
theorem dL_law__703 : decode cL_law_ 703 = .ok (.istore 6, 2) := by decide +kernel
theorem dL_law__705 : decode cL_law_ 705 = .ok (.aload_n 2, 1) := by decide +kernel
theorem dL_law__706 : decode cL_law_ 706 = .ok (.invokevirtual 102, 3) := by decide +kernel
theorem dL_law__709 : decode cL_law_ 709 = .ok (.iload 5, 2) := by decide +kernel
theorem dL_law__711 : decode cL_law_ 711 = .ok (.if_icmp .eq 5, 3) := by decide +kernel
theorem dL_law__714 : decode cL_law_ 714 = .ok (.iconst 0, 1) := by decide +kernel
theorem dL_law__715 : decode cL_law_ 715 = .ok (.ireturn, 1) := by decide +kernel
theorem dL_law__716 : decode cL_law_ 716 = .ok (.iload 5, 2) := by decide +kernel
theorem dL_law__718 : decode cL_law_ 718 = .ok (.ifCond .ne 15, 3) := by decide +kernel
theorem dL_law__721 : decode cL_law_ 721 = .ok (.aload_n 3, 1) := by decide +kernel
theorem dL_law__722 : decode cL_law_ 722 = .ok (.iconst 0, 1) := by decide +kernel
theorem dL_law__723 : decode cL_law_ 723 = .ok (.laload, 1) := by decide +kernel
theorem dL_law__724 : decode cL_law_ 724 = .ok (.iload 6, 2) := by decide +kernel
theorem dL_law__726 : decode cL_law_ 726 = .ok (.i2l, 1) := by decide +kernel
theorem dL_law__727 : decode cL_law_ 727 = .ok (.lcmp, 1) := by decide +kernel
theorem dL_law__728 : decode cL_law_ 728 = .ok (.ifCond .eq 5, 3) := by decide +kernel
theorem dL_law__731 : decode cL_law_ 731 = .ok (.iconst 0, 1) := by decide +kernel
theorem dL_law__732 : decode cL_law_ 732 = .ok (.ireturn, 1) := by decide +kernel
theorem dL_law__733 : decode cL_law_ 733 = .ok (.goto 1038, 3) := by decide +kernel
theorem dL_law__736 : decode cL_law_ 736 = .ok (.aload_n 1, 1) := by decide +kernel
theorem dL_law__737 : decode cL_law_ 737 = .ok (.invokevirtual 131, 3) := by decide +kernel
theorem dL_law__740 : decode cL_law_ 740 = .ok (.aload_n 2, 1) := by decide +kernel
theorem dL_law__741 : decode cL_law_ 741 = .ok (.invokevirtual 134, 3) := by decide +kernel
theorem dL_law__744 : decode cL_law_ 744 = .ok (.if_icmp .eq 1027, 3) := by decide +kernel
theorem dL_law__747 : decode cL_law_ 747 = .ok (.iconst 0, 1) := by decide +kernel
theorem dL_law__748 : decode cL_law_ 748 = .ok (.ireturn, 1) := by decide +kernel
theorem dL_law__749 : decode cL_law_ 749 = .ok (.aload_n 1, 1) := by decide +kernel
theorem dL_law__750 : decode cL_law_ 750 = .ok (.aload_n 0, 1) := by decide +kernel
theorem dL_law__751 : decode cL_law_ 751 = .ok (.iload 4, 2) := by decide +kernel
theorem dL_law__753 : decode cL_law_ 753 = .ok (.iconst 1, 1) := by decide +kernel
theorem dL_law__754 : decode cL_law_ 754 = .ok (.iadd, 1) := by decide +kernel
theorem dL_law__755 : decode cL_law_ 755 = .ok (.iaload, 1) := by decide +kernel
theorem dL_law__756 : decode cL_law_ 756 = .ok (.aload_n 0, 1) := by decide +kernel
theorem dL_law__757 : decode cL_law_ 757 = .ok (.iload 4, 2) := by decide +kernel
theorem dL_law__759 : decode cL_law_ 759 = .ok (.iconst 2, 1) := by decide +kernel
theorem dL_law__760 : decode cL_law_ 760 = .ok (.iadd, 1) := by decide +kernel
theorem dL_law__761 : decode cL_law_ 761 = .ok (.iaload, 1) := by decide +kernel
theorem dL_law__762 : decode cL_law_ 762 = .ok (.aload_n 3, 1) := by decide +kernel
theorem dL_law__763 : decode cL_law_ 763 = .ok (.invokestatic 135, 3) := by decide +kernel
theorem dL_law__766 : decode cL_law_ 766 = .ok (.istore 5, 2) := by decide +kernel
theorem dL_law__768 : decode cL_law_ 768 = .ok (.aload_n 2, 1) := by decide +kernel
theorem dL_law__769 : decode cL_law_ 769 = .ok (.aload_n 0, 1) := by decide +kernel
theorem dL_law__770 : decode cL_law_ 770 = .ok (.iload 4, 2) := by decide +kernel
theorem dL_law__772 : decode cL_law_ 772 = .ok (.iconst 1, 1) := by decide +kernel
theorem dL_law__773 : decode cL_law_ 773 = .ok (.iadd, 1) := by decide +kernel
theorem dL_law__774 : decode cL_law_ 774 = .ok (.iaload, 1) := by decide +kernel
theorem dL_law__775 : decode cL_law_ 775 = .ok (.aload_n 0, 1) := by decide +kernel
theorem dL_law__776 : decode cL_law_ 776 = .ok (.iload 4, 2) := by decide +kernel
theorem dL_law__778 : decode cL_law_ 778 = .ok (.iconst 2, 1) := by decide +kernel
theorem dL_law__779 : decode cL_law_ 779 = .ok (.iadd, 1) := by decide +kernel
theorem dL_law__780 : decode cL_law_ 780 = .ok (.iaload, 1) := by decide +kernel
theorem dL_law__781 : decode cL_law_ 781 = .ok (.invokevirtual 137, 3) := by decide +kernel
theorem dL_law__784 : decode cL_law_ 784 = .ok (.istore 6, 2) := by decide +kernel
theorem dL_law__786 : decode cL_law_ 786 = .ok (.aload_n 2, 1) := by decide +kernel
theorem dL_law__787 : decode cL_law_ 787 = .ok (.invokevirtual 102, 3) := by decide +kernel
theorem dL_law__790 : decode cL_law_ 790 = .ok (.iload 5, 2) := by decide +kernel
theorem dL_law__792 : decode cL_law_ 792 = .ok (.if_icmp .eq 5, 3) := by decide +kernel
theorem dL_law__795 : decode cL_law_ 795 = .ok (.iconst 0, 1) := by decide +kernel
theorem dL_law__796 : decode cL_law_ 796 = .ok (.ireturn, 1) := by decide +kernel
theorem dL_law__797 : decode cL_law_ 797 = .ok (.iload 5, 2) := by decide +kernel
theorem dL_law__799 : decode cL_law_ 799 = .ok (.ifCond .ne 15, 3) := by decide +kernel
theorem dL_law__802 : decode cL_law_ 802 = .ok (.aload_n 3, 1) := by decide +kernel
theorem dL_law__803 : decode cL_law_ 803 = .ok (.iconst 0, 1) := by decide +kernel
theorem dL_law__804 : decode cL_law_ 804 = .ok (.laload, 1) := by decide +kernel
theorem dL_law__805 : decode cL_law_ 805 = .ok (.iload 6, 2) := by decide +kernel
theorem dL_law__807 : decode cL_law_ 807 = .ok (.i2l, 1) := by decide +kernel
theorem dL_law__808 : decode cL_law_ 808 = .ok (.lcmp, 1) := by decide +kernel
theorem dL_law__809 : decode cL_law_ 809 = .ok (.ifCond .eq 5, 3) := by decide +kernel
theorem dL_law__812 : decode cL_law_ 812 = .ok (.iconst 0, 1) := by decide +kernel
theorem dL_law__813 : decode cL_law_ 813 = .ok (.ireturn, 1) := by decide +kernel
theorem dL_law__814 : decode cL_law_ 814 = .ok (.goto 957, 3) := by decide +kernel
theorem dL_law__817 : decode cL_law_ 817 = .ok (.aload_n 1, 1) := by decide +kernel
theorem dL_law__818 : decode cL_law_ 818 = .ok (.aload_n 0, 1) := by decide +kernel
theorem dL_law__819 : decode cL_law_ 819 = .ok (.iload 4, 2) := by decide +kernel
theorem dL_law__821 : decode cL_law_ 821 = .ok (.iconst 1, 1) := by decide +kernel
theorem dL_law__822 : decode cL_law_ 822 = .ok (.iadd, 1) := by decide +kernel
theorem dL_law__823 : decode cL_law_ 823 = .ok (.iaload, 1) := by decide +kernel
theorem dL_law__824 : decode cL_law_ 824 = .ok (.aload_n 3, 1) := by decide +kernel
theorem dL_law__825 : decode cL_law_ 825 = .ok (.invokestatic 138, 3) := by decide +kernel
theorem dL_law__828 : decode cL_law_ 828 = .ok (.istore 5, 2) := by decide +kernel
theorem dL_law__830 : decode cL_law_ 830 = .ok (.aload_n 2, 1) := by decide +kernel
theorem dL_law__831 : decode cL_law_ 831 = .ok (.aload_n 0, 1) := by decide +kernel
theorem dL_law__832 : decode cL_law_ 832 = .ok (.iload 4, 2) := by decide +kernel
theorem dL_law__834 : decode cL_law_ 834 = .ok (.iconst 1, 1) := by decide +kernel
theorem dL_law__835 : decode cL_law_ 835 = .ok (.iadd, 1) := by decide +kernel
theorem dL_law__836 : decode cL_law_ 836 = .ok (.iaload, 1) := by decide +kernel
theorem dL_law__837 : decode cL_law_ 837 = .ok (.invokevirtual 140, 3) := by decide +kernel
theorem dL_law__840 : decode cL_law_ 840 = .ok (.istore 6, 2) := by decide +kernel
theorem dL_law__842 : decode cL_law_ 842 = .ok (.aload_n 2, 1) := by decide +kernel
theorem dL_law__843 : decode cL_law_ 843 = .ok (.invokevirtual 102, 3) := by decide +kernel
theorem dL_law__846 : decode cL_law_ 846 = .ok (.iload 5, 2) := by decide +kernel
theorem dL_law__848 : decode cL_law_ 848 = .ok (.if_icmp .eq 5, 3) := by decide +kernel
theorem dL_law__851 : decode cL_law_ 851 = .ok (.iconst 0, 1) := by decide +kernel
theorem dL_law__852 : decode cL_law_ 852 = .ok (.ireturn, 1) := by decide +kernel
theorem dL_law__853 : decode cL_law_ 853 = .ok (.iload 5, 2) := by decide +kernel
theorem dL_law__855 : decode cL_law_ 855 = .ok (.ifCond .ne 15, 3) := by decide +kernel
theorem dL_law__858 : decode cL_law_ 858 = .ok (.aload_n 3, 1) := by decide +kernel
theorem dL_law__859 : decode cL_law_ 859 = .ok (.iconst 0, 1) := by decide +kernel
theorem dL_law__860 : decode cL_law_ 860 = .ok (.laload, 1) := by decide +kernel
theorem dL_law__861 : decode cL_law_ 861 = .ok (.iload 6, 2) := by decide +kernel
theorem dL_law__863 : decode cL_law_ 863 = .ok (.i2l, 1) := by decide +kernel
theorem dL_law__864 : decode cL_law_ 864 = .ok (.lcmp, 1) := by decide +kernel
theorem dL_law__865 : decode cL_law_ 865 = .ok (.ifCond .eq 5, 3) := by decide +kernel
theorem dL_law__868 : decode cL_law_ 868 = .ok (.iconst 0, 1) := by decide +kernel
theorem dL_law__869 : decode cL_law_ 869 = .ok (.ireturn, 1) := by decide +kernel
theorem dL_law__870 : decode cL_law_ 870 = .ok (.goto 901, 3) := by decide +kernel
theorem dL_law__873 : decode cL_law_ 873 = .ok (.aload_n 1, 1) := by decide +kernel
theorem dL_law__874 : decode cL_law_ 874 = .ok (.invokevirtual 141, 3) := by decide +kernel
theorem dL_law__877 : decode cL_law_ 877 = .ok (.aload_n 2, 1) := by decide +kernel
theorem dL_law__878 : decode cL_law_ 878 = .ok (.invokevirtual 144, 3) := by decide +kernel
theorem dL_law__881 : decode cL_law_ 881 = .ok (.if_icmp .eq 890, 3) := by decide +kernel
theorem dL_law__884 : decode cL_law_ 884 = .ok (.iconst 0, 1) := by decide +kernel
theorem dL_law__885 : decode cL_law_ 885 = .ok (.ireturn, 1) := by decide +kernel
theorem dL_law__886 : decode cL_law_ 886 = .ok (.aload_n 1, 1) := by decide +kernel
theorem dL_law__887 : decode cL_law_ 887 = .ok (.invokevirtual 145, 3) := by decide +kernel
theorem dL_law__890 : decode cL_law_ 890 = .ok (.aload_n 2, 1) := by decide +kernel
theorem dL_law__891 : decode cL_law_ 891 = .ok (.invokevirtual 148, 3) := by decide +kernel
theorem dL_law__894 : decode cL_law_ 894 = .ok (.if_icmp .eq 877, 3) := by decide +kernel
theorem dL_law__897 : decode cL_law_ 897 = .ok (.iconst 0, 1) := by decide +kernel
theorem dL_law__898 : decode cL_law_ 898 = .ok (.ireturn, 1) := by decide +kernel
theorem dL_law__899 : decode cL_law_ 899 = .ok (.aload_n 1, 1) := by decide +kernel
theorem dL_law__900 : decode cL_law_ 900 = .ok (.aload_n 3, 1) := by decide +kernel
theorem dL_law__901 : decode cL_law_ 901 = .ok (.invokestatic 149, 3) := by decide +kernel
theorem dL_law__904 : decode cL_law_ 904 = .ok (.istore 5, 2) := by decide +kernel
theorem dL_law__906 : decode cL_law_ 906 = .ok (.aload_n 2, 1) := by decide +kernel
theorem dL_law__907 : decode cL_law_ 907 = .ok (.invokevirtual 152, 3) := by decide +kernel
theorem dL_law__910 : decode cL_law_ 910 = .ok (.istore 6, 2) := by decide +kernel
theorem dL_law__912 : decode cL_law_ 912 = .ok (.aload_n 2, 1) := by decide +kernel
theorem dL_law__913 : decode cL_law_ 913 = .ok (.invokevirtual 102, 3) := by decide +kernel
theorem dL_law__916 : decode cL_law_ 916 = .ok (.iload 5, 2) := by decide +kernel
theorem dL_law__918 : decode cL_law_ 918 = .ok (.if_icmp .eq 5, 3) := by decide +kernel
theorem dL_law__921 : decode cL_law_ 921 = .ok (.iconst 0, 1) := by decide +kernel
theorem dL_law__922 : decode cL_law_ 922 = .ok (.ireturn, 1) := by decide +kernel
theorem dL_law__923 : decode cL_law_ 923 = .ok (.iload 5, 2) := by decide +kernel
theorem dL_law__925 : decode cL_law_ 925 = .ok (.ifCond .ne 15, 3) := by decide +kernel
theorem dL_law__928 : decode cL_law_ 928 = .ok (.aload_n 3, 1) := by decide +kernel
theorem dL_law__929 : decode cL_law_ 929 = .ok (.iconst 0, 1) := by decide +kernel
theorem dL_law__930 : decode cL_law_ 930 = .ok (.laload, 1) := by decide +kernel
theorem dL_law__931 : decode cL_law_ 931 = .ok (.iload 6, 2) := by decide +kernel
theorem dL_law__933 : decode cL_law_ 933 = .ok (.i2l, 1) := by decide +kernel
theorem dL_law__934 : decode cL_law_ 934 = .ok (.lcmp, 1) := by decide +kernel
theorem dL_law__935 : decode cL_law_ 935 = .ok (.ifCond .eq 5, 3) := by decide +kernel
theorem dL_law__938 : decode cL_law_ 938 = .ok (.iconst 0, 1) := by decide +kernel
theorem dL_law__939 : decode cL_law_ 939 = .ok (.ireturn, 1) := by decide +kernel
theorem dL_law__940 : decode cL_law_ 940 = .ok (.goto 831, 3) := by decide +kernel
theorem dL_law__943 : decode cL_law_ 943 = .ok (.aload_n 1, 1) := by decide +kernel
theorem dL_law__944 : decode cL_law_ 944 = .ok (.aload_n 0, 1) := by decide +kernel
theorem dL_law__945 : decode cL_law_ 945 = .ok (.iload 4, 2) := by decide +kernel
theorem dL_law__947 : decode cL_law_ 947 = .ok (.iconst 1, 1) := by decide +kernel
theorem dL_law__948 : decode cL_law_ 948 = .ok (.iadd, 1) := by decide +kernel
theorem dL_law__949 : decode cL_law_ 949 = .ok (.iaload, 1) := by decide +kernel
theorem dL_law__950 : decode cL_law_ 950 = .ok (.aload_n 3, 1) := by decide +kernel
theorem dL_law__951 : decode cL_law_ 951 = .ok (.invokestatic 153, 3) := by decide +kernel
theorem dL_law__954 : decode cL_law_ 954 = .ok (.istore 5, 2) := by decide +kernel
theorem dL_law__956 : decode cL_law_ 956 = .ok (.aload_n 2, 1) := by decide +kernel
theorem dL_law__957 : decode cL_law_ 957 = .ok (.aload_n 0, 1) := by decide +kernel
theorem dL_law__958 : decode cL_law_ 958 = .ok (.iload 4, 2) := by decide +kernel
theorem dL_law__960 : decode cL_law_ 960 = .ok (.iconst 1, 1) := by decide +kernel
theorem dL_law__961 : decode cL_law_ 961 = .ok (.iadd, 1) := by decide +kernel
theorem dL_law__962 : decode cL_law_ 962 = .ok (.iaload, 1) := by decide +kernel
theorem dL_law__963 : decode cL_law_ 963 = .ok (.invokevirtual 155, 3) := by decide +kernel
theorem dL_law__966 : decode cL_law_ 966 = .ok (.istore 6, 2) := by decide +kernel
theorem dL_law__968 : decode cL_law_ 968 = .ok (.aload_n 2, 1) := by decide +kernel
theorem dL_law__969 : decode cL_law_ 969 = .ok (.invokevirtual 102, 3) := by decide +kernel
theorem dL_law__972 : decode cL_law_ 972 = .ok (.iload 5, 2) := by decide +kernel
theorem dL_law__974 : decode cL_law_ 974 = .ok (.if_icmp .eq 5, 3) := by decide +kernel
theorem dL_law__977 : decode cL_law_ 977 = .ok (.iconst 0, 1) := by decide +kernel
theorem dL_law__978 : decode cL_law_ 978 = .ok (.ireturn, 1) := by decide +kernel
theorem dL_law__979 : decode cL_law_ 979 = .ok (.iload 5, 2) := by decide +kernel
theorem dL_law__981 : decode cL_law_ 981 = .ok (.ifCond .ne 15, 3) := by decide +kernel
theorem dL_law__984 : decode cL_law_ 984 = .ok (.aload_n 3, 1) := by decide +kernel
theorem dL_law__985 : decode cL_law_ 985 = .ok (.iconst 0, 1) := by decide +kernel
theorem dL_law__986 : decode cL_law_ 986 = .ok (.laload, 1) := by decide +kernel
theorem dL_law__987 : decode cL_law_ 987 = .ok (.iload 6, 2) := by decide +kernel
theorem dL_law__989 : decode cL_law_ 989 = .ok (.i2l, 1) := by decide +kernel
theorem dL_law__990 : decode cL_law_ 990 = .ok (.lcmp, 1) := by decide +kernel
theorem dL_law__991 : decode cL_law_ 991 = .ok (.ifCond .eq 5, 3) := by decide +kernel
theorem dL_law__994 : decode cL_law_ 994 = .ok (.iconst 0, 1) := by decide +kernel
theorem dL_law__995 : decode cL_law_ 995 = .ok (.ireturn, 1) := by decide +kernel
theorem dL_law__996 : decode cL_law_ 996 = .ok (.goto 775, 3) := by decide +kernel
theorem dL_law__999 : decode cL_law_ 999 = .ok (.aload_n 1, 1) := by decide +kernel
theorem dL_law__1000 : decode cL_law_ 1000 = .ok (.aload_n 3, 1) := by decide +kernel
theorem dL_law__1001 : decode cL_law_ 1001 = .ok (.invokestatic 156, 3) := by decide +kernel
theorem dL_law__1004 : decode cL_law_ 1004 = .ok (.istore 5, 2) := by decide +kernel
theorem dL_law__1006 : decode cL_law_ 1006 = .ok (.aload_n 2, 1) := by decide +kernel
theorem dL_law__1007 : decode cL_law_ 1007 = .ok (.invokevirtual 158, 3) := by decide +kernel
theorem dL_law__1010 : decode cL_law_ 1010 = .ok (.istore 6, 2) := by decide +kernel
theorem dL_law__1012 : decode cL_law_ 1012 = .ok (.aload_n 2, 1) := by decide +kernel
theorem dL_law__1013 : decode cL_law_ 1013 = .ok (.invokevirtual 102, 3) := by decide +kernel
theorem dL_law__1016 : decode cL_law_ 1016 = .ok (.iload 5, 2) := by decide +kernel
theorem dL_law__1018 : decode cL_law_ 1018 = .ok (.if_icmp .eq 5, 3) := by decide +kernel
theorem dL_law__1021 : decode cL_law_ 1021 = .ok (.iconst 0, 1) := by decide +kernel
theorem dL_law__1022 : decode cL_law_ 1022 = .ok (.ireturn, 1) := by decide +kernel
theorem dL_law__1023 : decode cL_law_ 1023 = .ok (.iload 5, 2) := by decide +kernel
theorem dL_law__1025 : decode cL_law_ 1025 = .ok (.ifCond .ne 15, 3) := by decide +kernel
theorem dL_law__1028 : decode cL_law_ 1028 = .ok (.aload_n 3, 1) := by decide +kernel
theorem dL_law__1029 : decode cL_law_ 1029 = .ok (.iconst 0, 1) := by decide +kernel
theorem dL_law__1030 : decode cL_law_ 1030 = .ok (.laload, 1) := by decide +kernel
theorem dL_law__1031 : decode cL_law_ 1031 = .ok (.iload 6, 2) := by decide +kernel
theorem dL_law__1033 : decode cL_law_ 1033 = .ok (.i2l, 1) := by decide +kernel
theorem dL_law__1034 : decode cL_law_ 1034 = .ok (.lcmp, 1) := by decide +kernel
theorem dL_law__1035 : decode cL_law_ 1035 = .ok (.ifCond .eq 5, 3) := by decide +kernel
theorem dL_law__1038 : decode cL_law_ 1038 = .ok (.iconst 0, 1) := by decide +kernel
theorem dL_law__1039 : decode cL_law_ 1039 = .ok (.ireturn, 1) := by decide +kernel
theorem dL_law__1040 : decode cL_law_ 1040 = .ok (.goto 731, 3) := by decide +kernel
theorem dL_law__1043 : decode cL_law_ 1043 = .ok (.aload_n 1, 1) := by decide +kernel
theorem dL_law__1044 : decode cL_law_ 1044 = .ok (.invokevirtual 159, 3) := by decide +kernel
theorem dL_law__1047 : decode cL_law_ 1047 = .ok (.aload_n 2, 1) := by decide +kernel
theorem dL_law__1048 : decode cL_law_ 1048 = .ok (.invokevirtual 162, 3) := by decide +kernel
theorem dL_law__1051 : decode cL_law_ 1051 = .ok (.if_icmp .eq 720, 3) := by decide +kernel
theorem dL_law__1054 : decode cL_law_ 1054 = .ok (.iconst 0, 1) := by decide +kernel
theorem dL_law__1055 : decode cL_law_ 1055 = .ok (.ireturn, 1) := by decide +kernel
theorem dL_law__1056 : decode cL_law_ 1056 = .ok (.aload_n 1, 1) := by decide +kernel
theorem dL_law__1057 : decode cL_law_ 1057 = .ok (.aload_n 3, 1) := by decide +kernel
theorem dL_law__1058 : decode cL_law_ 1058 = .ok (.invokestatic 163, 3) := by decide +kernel
theorem dL_law__1061 : decode cL_law_ 1061 = .ok (.istore 5, 2) := by decide +kernel
theorem dL_law__1063 : decode cL_law_ 1063 = .ok (.aload_n 2, 1) := by decide +kernel
theorem dL_law__1064 : decode cL_law_ 1064 = .ok (.invokevirtual 165, 3) := by decide +kernel
theorem dL_law__1067 : decode cL_law_ 1067 = .ok (.istore 6, 2) := by decide +kernel
theorem dL_law__1069 : decode cL_law_ 1069 = .ok (.aload_n 2, 1) := by decide +kernel
theorem dL_law__1070 : decode cL_law_ 1070 = .ok (.invokevirtual 102, 3) := by decide +kernel
theorem dL_law__1073 : decode cL_law_ 1073 = .ok (.iload 5, 2) := by decide +kernel
theorem dL_law__1075 : decode cL_law_ 1075 = .ok (.if_icmp .eq 5, 3) := by decide +kernel
theorem dL_law__1078 : decode cL_law_ 1078 = .ok (.iconst 0, 1) := by decide +kernel
theorem dL_law__1079 : decode cL_law_ 1079 = .ok (.ireturn, 1) := by decide +kernel
theorem dL_law__1080 : decode cL_law_ 1080 = .ok (.iload 5, 2) := by decide +kernel
theorem dL_law__1082 : decode cL_law_ 1082 = .ok (.ifCond .ne 15, 3) := by decide +kernel
theorem dL_law__1085 : decode cL_law_ 1085 = .ok (.aload_n 3, 1) := by decide +kernel
theorem dL_law__1086 : decode cL_law_ 1086 = .ok (.iconst 0, 1) := by decide +kernel
theorem dL_law__1087 : decode cL_law_ 1087 = .ok (.laload, 1) := by decide +kernel
theorem dL_law__1088 : decode cL_law_ 1088 = .ok (.iload 6, 2) := by decide +kernel
theorem dL_law__1090 : decode cL_law_ 1090 = .ok (.i2l, 1) := by decide +kernel
theorem dL_law__1091 : decode cL_law_ 1091 = .ok (.lcmp, 1) := by decide +kernel
theorem dL_law__1092 : decode cL_law_ 1092 = .ok (.ifCond .eq 5, 3) := by decide +kernel
theorem dL_law__1095 : decode cL_law_ 1095 = .ok (.iconst 0, 1) := by decide +kernel
theorem dL_law__1096 : decode cL_law_ 1096 = .ok (.ireturn, 1) := by decide +kernel
theorem dL_law__1097 : decode cL_law_ 1097 = .ok (.goto 674, 3) := by decide +kernel
theorem dL_law__1100 : decode cL_law_ 1100 = .ok (.aload_n 1, 1) := by decide +kernel
theorem dL_law__1101 : decode cL_law_ 1101 = .ok (.aload_n 0, 1) := by decide +kernel
theorem dL_law__1102 : decode cL_law_ 1102 = .ok (.iload 4, 2) := by decide +kernel
theorem dL_law__1104 : decode cL_law_ 1104 = .ok (.iconst 1, 1) := by decide +kernel
theorem dL_law__1105 : decode cL_law_ 1105 = .ok (.iadd, 1) := by decide +kernel
theorem dL_law__1106 : decode cL_law_ 1106 = .ok (.iaload, 1) := by decide +kernel
theorem dL_law__1107 : decode cL_law_ 1107 = .ok (.aload_n 0, 1) := by decide +kernel
theorem dL_law__1108 : decode cL_law_ 1108 = .ok (.iload 4, 2) := by decide +kernel
theorem dL_law__1110 : decode cL_law_ 1110 = .ok (.iconst 2, 1) := by decide +kernel
theorem dL_law__1111 : decode cL_law_ 1111 = .ok (.iadd, 1) := by decide +kernel
theorem dL_law__1112 : decode cL_law_ 1112 = .ok (.iaload, 1) := by decide +kernel
theorem dL_law__1113 : decode cL_law_ 1113 = .ok (.aload_n 3, 1) := by decide +kernel
theorem dL_law__1114 : decode cL_law_ 1114 = .ok (.invokestatic 166, 3) := by decide +kernel
theorem dL_law__1117 : decode cL_law_ 1117 = .ok (.istore 5, 2) := by decide +kernel
theorem dL_law__1119 : decode cL_law_ 1119 = .ok (.aload_n 2, 1) := by decide +kernel
theorem dL_law__1120 : decode cL_law_ 1120 = .ok (.aload_n 0, 1) := by decide +kernel
theorem dL_law__1121 : decode cL_law_ 1121 = .ok (.iload 4, 2) := by decide +kernel
theorem dL_law__1123 : decode cL_law_ 1123 = .ok (.iconst 1, 1) := by decide +kernel
theorem dL_law__1124 : decode cL_law_ 1124 = .ok (.iadd, 1) := by decide +kernel
theorem dL_law__1125 : decode cL_law_ 1125 = .ok (.iaload, 1) := by decide +kernel
theorem dL_law__1126 : decode cL_law_ 1126 = .ok (.aload_n 0, 1) := by decide +kernel
theorem dL_law__1127 : decode cL_law_ 1127 = .ok (.iload 4, 2) := by decide +kernel
theorem dL_law__1129 : decode cL_law_ 1129 = .ok (.iconst 2, 1) := by decide +kernel
theorem dL_law__1130 : decode cL_law_ 1130 = .ok (.iadd, 1) := by decide +kernel
theorem dL_law__1131 : decode cL_law_ 1131 = .ok (.iaload, 1) := by decide +kernel
theorem dL_law__1132 : decode cL_law_ 1132 = .ok (.invokevirtual 168, 3) := by decide +kernel
theorem dL_law__1135 : decode cL_law_ 1135 = .ok (.istore 6, 2) := by decide +kernel
theorem dL_law__1137 : decode cL_law_ 1137 = .ok (.aload_n 2, 1) := by decide +kernel
theorem dL_law__1138 : decode cL_law_ 1138 = .ok (.invokevirtual 102, 3) := by decide +kernel
theorem dL_law__1141 : decode cL_law_ 1141 = .ok (.iload 5, 2) := by decide +kernel
theorem dL_law__1143 : decode cL_law_ 1143 = .ok (.if_icmp .eq 5, 3) := by decide +kernel
theorem dL_law__1146 : decode cL_law_ 1146 = .ok (.iconst 0, 1) := by decide +kernel
theorem dL_law__1147 : decode cL_law_ 1147 = .ok (.ireturn, 1) := by decide +kernel
theorem dL_law__1148 : decode cL_law_ 1148 = .ok (.iload 5, 2) := by decide +kernel
theorem dL_law__1150 : decode cL_law_ 1150 = .ok (.ifCond .ne 15, 3) := by decide +kernel
theorem dL_law__1153 : decode cL_law_ 1153 = .ok (.aload_n 3, 1) := by decide +kernel
theorem dL_law__1154 : decode cL_law_ 1154 = .ok (.iconst 0, 1) := by decide +kernel
theorem dL_law__1155 : decode cL_law_ 1155 = .ok (.laload, 1) := by decide +kernel
theorem dL_law__1156 : decode cL_law_ 1156 = .ok (.iload 6, 2) := by decide +kernel
theorem dL_law__1158 : decode cL_law_ 1158 = .ok (.i2l, 1) := by decide +kernel
theorem dL_law__1159 : decode cL_law_ 1159 = .ok (.lcmp, 1) := by decide +kernel
theorem dL_law__1160 : decode cL_law_ 1160 = .ok (.ifCond .eq 5, 3) := by decide +kernel
theorem dL_law__1163 : decode cL_law_ 1163 = .ok (.iconst 0, 1) := by decide +kernel
theorem dL_law__1164 : decode cL_law_ 1164 = .ok (.ireturn, 1) := by decide +kernel
theorem dL_law__1165 : decode cL_law_ 1165 = .ok (.goto 606, 3) := by decide +kernel
theorem dL_law__1168 : decode cL_law_ 1168 = .ok (.aload_n 1, 1) := by decide +kernel
theorem dL_law__1169 : decode cL_law_ 1169 = .ok (.aload_n 0, 1) := by decide +kernel
theorem dL_law__1170 : decode cL_law_ 1170 = .ok (.iload 4, 2) := by decide +kernel
theorem dL_law__1172 : decode cL_law_ 1172 = .ok (.iconst 1, 1) := by decide +kernel
theorem dL_law__1173 : decode cL_law_ 1173 = .ok (.iadd, 1) := by decide +kernel
theorem dL_law__1174 : decode cL_law_ 1174 = .ok (.iaload, 1) := by decide +kernel
theorem dL_law__1175 : decode cL_law_ 1175 = .ok (.aload_n 0, 1) := by decide +kernel
theorem dL_law__1176 : decode cL_law_ 1176 = .ok (.iload 4, 2) := by decide +kernel
theorem dL_law__1178 : decode cL_law_ 1178 = .ok (.iconst 2, 1) := by decide +kernel
theorem dL_law__1179 : decode cL_law_ 1179 = .ok (.iadd, 1) := by decide +kernel
theorem dL_law__1180 : decode cL_law_ 1180 = .ok (.iaload, 1) := by decide +kernel
theorem dL_law__1181 : decode cL_law_ 1181 = .ok (.aload_n 0, 1) := by decide +kernel
theorem dL_law__1182 : decode cL_law_ 1182 = .ok (.iload 4, 2) := by decide +kernel
theorem dL_law__1184 : decode cL_law_ 1184 = .ok (.iconst 3, 1) := by decide +kernel
theorem dL_law__1185 : decode cL_law_ 1185 = .ok (.iadd, 1) := by decide +kernel
theorem dL_law__1186 : decode cL_law_ 1186 = .ok (.iaload, 1) := by decide +kernel
theorem dL_law__1187 : decode cL_law_ 1187 = .ok (.aload_n 3, 1) := by decide +kernel
theorem dL_law__1188 : decode cL_law_ 1188 = .ok (.invokestatic 169, 3) := by decide +kernel
theorem dL_law__1191 : decode cL_law_ 1191 = .ok (.istore 5, 2) := by decide +kernel
theorem dL_law__1193 : decode cL_law_ 1193 = .ok (.aload_n 2, 1) := by decide +kernel
theorem dL_law__1194 : decode cL_law_ 1194 = .ok (.aload_n 0, 1) := by decide +kernel
theorem dL_law__1195 : decode cL_law_ 1195 = .ok (.iload 4, 2) := by decide +kernel
theorem dL_law__1197 : decode cL_law_ 1197 = .ok (.iconst 1, 1) := by decide +kernel
theorem dL_law__1198 : decode cL_law_ 1198 = .ok (.iadd, 1) := by decide +kernel
theorem dL_law__1199 : decode cL_law_ 1199 = .ok (.iaload, 1) := by decide +kernel
theorem dL_law__1200 : decode cL_law_ 1200 = .ok (.aload_n 0, 1) := by decide +kernel
theorem dL_law__1201 : decode cL_law_ 1201 = .ok (.iload 4, 2) := by decide +kernel
theorem dL_law__1203 : decode cL_law_ 1203 = .ok (.iconst 2, 1) := by decide +kernel
theorem dL_law__1204 : decode cL_law_ 1204 = .ok (.iadd, 1) := by decide +kernel
theorem dL_law__1205 : decode cL_law_ 1205 = .ok (.iaload, 1) := by decide +kernel
theorem dL_law__1206 : decode cL_law_ 1206 = .ok (.aload_n 0, 1) := by decide +kernel
theorem dL_law__1207 : decode cL_law_ 1207 = .ok (.iload 4, 2) := by decide +kernel
theorem dL_law__1209 : decode cL_law_ 1209 = .ok (.iconst 3, 1) := by decide +kernel
theorem dL_law__1210 : decode cL_law_ 1210 = .ok (.iadd, 1) := by decide +kernel
theorem dL_law__1211 : decode cL_law_ 1211 = .ok (.iaload, 1) := by decide +kernel
theorem dL_law__1212 : decode cL_law_ 1212 = .ok (.invokevirtual 171, 3) := by decide +kernel
theorem dL_law__1215 : decode cL_law_ 1215 = .ok (.istore 6, 2) := by decide +kernel
theorem dL_law__1217 : decode cL_law_ 1217 = .ok (.aload_n 2, 1) := by decide +kernel
theorem dL_law__1218 : decode cL_law_ 1218 = .ok (.invokevirtual 102, 3) := by decide +kernel
theorem dL_law__1221 : decode cL_law_ 1221 = .ok (.iload 5, 2) := by decide +kernel
theorem dL_law__1223 : decode cL_law_ 1223 = .ok (.if_icmp .eq 5, 3) := by decide +kernel
theorem dL_law__1226 : decode cL_law_ 1226 = .ok (.iconst 0, 1) := by decide +kernel
theorem dL_law__1227 : decode cL_law_ 1227 = .ok (.ireturn, 1) := by decide +kernel
theorem dL_law__1228 : decode cL_law_ 1228 = .ok (.iload 5, 2) := by decide +kernel
theorem dL_law__1230 : decode cL_law_ 1230 = .ok (.ifCond .ne 15, 3) := by decide +kernel
theorem dL_law__1233 : decode cL_law_ 1233 = .ok (.aload_n 3, 1) := by decide +kernel
theorem dL_law__1234 : decode cL_law_ 1234 = .ok (.iconst 0, 1) := by decide +kernel
theorem dL_law__1235 : decode cL_law_ 1235 = .ok (.laload, 1) := by decide +kernel
theorem dL_law__1236 : decode cL_law_ 1236 = .ok (.iload 6, 2) := by decide +kernel
theorem dL_law__1238 : decode cL_law_ 1238 = .ok (.i2l, 1) := by decide +kernel
theorem dL_law__1239 : decode cL_law_ 1239 = .ok (.lcmp, 1) := by decide +kernel
theorem dL_law__1240 : decode cL_law_ 1240 = .ok (.ifCond .eq 5, 3) := by decide +kernel
theorem dL_law__1243 : decode cL_law_ 1243 = .ok (.iconst 0, 1) := by decide +kernel
theorem dL_law__1244 : decode cL_law_ 1244 = .ok (.ireturn, 1) := by decide +kernel
theorem dL_law__1245 : decode cL_law_ 1245 = .ok (.goto 526, 3) := by decide +kernel
theorem dL_law__1248 : decode cL_law_ 1248 = .ok (.aload_n 1, 1) := by decide +kernel
theorem dL_law__1249 : decode cL_law_ 1249 = .ok (.aload_n 0, 1) := by decide +kernel
theorem dL_law__1250 : decode cL_law_ 1250 = .ok (.iload 4, 2) := by decide +kernel
theorem dL_law__1252 : decode cL_law_ 1252 = .ok (.iconst 1, 1) := by decide +kernel
theorem dL_law__1253 : decode cL_law_ 1253 = .ok (.iadd, 1) := by decide +kernel
theorem dL_law__1254 : decode cL_law_ 1254 = .ok (.iaload, 1) := by decide +kernel
theorem dL_law__1255 : decode cL_law_ 1255 = .ok (.aload_n 3, 1) := by decide +kernel
theorem dL_law__1256 : decode cL_law_ 1256 = .ok (.invokestatic 172, 3) := by decide +kernel
theorem dL_law__1259 : decode cL_law_ 1259 = .ok (.istore 5, 2) := by decide +kernel
theorem dL_law__1261 : decode cL_law_ 1261 = .ok (.aload_n 2, 1) := by decide +kernel
theorem dL_law__1262 : decode cL_law_ 1262 = .ok (.aload_n 0, 1) := by decide +kernel
theorem dL_law__1263 : decode cL_law_ 1263 = .ok (.iload 4, 2) := by decide +kernel
theorem dL_law__1265 : decode cL_law_ 1265 = .ok (.iconst 1, 1) := by decide +kernel
theorem dL_law__1266 : decode cL_law_ 1266 = .ok (.iadd, 1) := by decide +kernel
theorem dL_law__1267 : decode cL_law_ 1267 = .ok (.iaload, 1) := by decide +kernel
theorem dL_law__1268 : decode cL_law_ 1268 = .ok (.invokevirtual 174, 3) := by decide +kernel
theorem dL_law__1271 : decode cL_law_ 1271 = .ok (.istore 6, 2) := by decide +kernel
theorem dL_law__1273 : decode cL_law_ 1273 = .ok (.aload_n 2, 1) := by decide +kernel
theorem dL_law__1274 : decode cL_law_ 1274 = .ok (.invokevirtual 102, 3) := by decide +kernel
theorem dL_law__1277 : decode cL_law_ 1277 = .ok (.iload 5, 2) := by decide +kernel
theorem dL_law__1279 : decode cL_law_ 1279 = .ok (.if_icmp .eq 5, 3) := by decide +kernel
theorem dL_law__1282 : decode cL_law_ 1282 = .ok (.iconst 0, 1) := by decide +kernel
theorem dL_law__1283 : decode cL_law_ 1283 = .ok (.ireturn, 1) := by decide +kernel
theorem dL_law__1284 : decode cL_law_ 1284 = .ok (.iload 5, 2) := by decide +kernel
theorem dL_law__1286 : decode cL_law_ 1286 = .ok (.ifCond .ne 15, 3) := by decide +kernel
theorem dL_law__1289 : decode cL_law_ 1289 = .ok (.aload_n 3, 1) := by decide +kernel
theorem dL_law__1290 : decode cL_law_ 1290 = .ok (.iconst 0, 1) := by decide +kernel
theorem dL_law__1291 : decode cL_law_ 1291 = .ok (.laload, 1) := by decide +kernel
theorem dL_law__1292 : decode cL_law_ 1292 = .ok (.iload 6, 2) := by decide +kernel
theorem dL_law__1294 : decode cL_law_ 1294 = .ok (.i2l, 1) := by decide +kernel
theorem dL_law__1295 : decode cL_law_ 1295 = .ok (.lcmp, 1) := by decide +kernel
theorem dL_law__1296 : decode cL_law_ 1296 = .ok (.ifCond .eq 5, 3) := by decide +kernel
theorem dL_law__1299 : decode cL_law_ 1299 = .ok (.iconst 0, 1) := by decide +kernel
theorem dL_law__1300 : decode cL_law_ 1300 = .ok (.ireturn, 1) := by decide +kernel
theorem dL_law__1301 : decode cL_law_ 1301 = .ok (.goto 470, 3) := by decide +kernel
theorem dL_law__1304 : decode cL_law_ 1304 = .ok (.aload_n 1, 1) := by decide +kernel
theorem dL_law__1305 : decode cL_law_ 1305 = .ok (.aload_n 0, 1) := by decide +kernel
theorem dL_law__1306 : decode cL_law_ 1306 = .ok (.iload 4, 2) := by decide +kernel
theorem dL_law__1308 : decode cL_law_ 1308 = .ok (.iconst 1, 1) := by decide +kernel
theorem dL_law__1309 : decode cL_law_ 1309 = .ok (.iadd, 1) := by decide +kernel
theorem dL_law__1310 : decode cL_law_ 1310 = .ok (.iaload, 1) := by decide +kernel
theorem dL_law__1311 : decode cL_law_ 1311 = .ok (.aload_n 3, 1) := by decide +kernel
theorem dL_law__1312 : decode cL_law_ 1312 = .ok (.invokestatic 175, 3) := by decide +kernel
theorem dL_law__1315 : decode cL_law_ 1315 = .ok (.istore 5, 2) := by decide +kernel
theorem dL_law__1317 : decode cL_law_ 1317 = .ok (.aload_n 2, 1) := by decide +kernel
theorem dL_law__1318 : decode cL_law_ 1318 = .ok (.aload_n 0, 1) := by decide +kernel
theorem dL_law__1319 : decode cL_law_ 1319 = .ok (.iload 4, 2) := by decide +kernel
theorem dL_law__1321 : decode cL_law_ 1321 = .ok (.iconst 1, 1) := by decide +kernel
theorem dL_law__1322 : decode cL_law_ 1322 = .ok (.iadd, 1) := by decide +kernel
theorem dL_law__1323 : decode cL_law_ 1323 = .ok (.iaload, 1) := by decide +kernel
theorem dL_law__1324 : decode cL_law_ 1324 = .ok (.invokevirtual 177, 3) := by decide +kernel
theorem dL_law__1327 : decode cL_law_ 1327 = .ok (.istore 6, 2) := by decide +kernel
theorem dL_law__1329 : decode cL_law_ 1329 = .ok (.aload_n 2, 1) := by decide +kernel
theorem dL_law__1330 : decode cL_law_ 1330 = .ok (.invokevirtual 102, 3) := by decide +kernel
theorem dL_law__1333 : decode cL_law_ 1333 = .ok (.iload 5, 2) := by decide +kernel
theorem dL_law__1335 : decode cL_law_ 1335 = .ok (.if_icmp .eq 5, 3) := by decide +kernel
theorem dL_law__1338 : decode cL_law_ 1338 = .ok (.iconst 0, 1) := by decide +kernel
theorem dL_law__1339 : decode cL_law_ 1339 = .ok (.ireturn, 1) := by decide +kernel
theorem dL_law__1340 : decode cL_law_ 1340 = .ok (.iload 5, 2) := by decide +kernel
theorem dL_law__1342 : decode cL_law_ 1342 = .ok (.ifCond .ne 15, 3) := by decide +kernel
theorem dL_law__1345 : decode cL_law_ 1345 = .ok (.aload_n 3, 1) := by decide +kernel
theorem dL_law__1346 : decode cL_law_ 1346 = .ok (.iconst 0, 1) := by decide +kernel
theorem dL_law__1347 : decode cL_law_ 1347 = .ok (.laload, 1) := by decide +kernel
theorem dL_law__1348 : decode cL_law_ 1348 = .ok (.iload 6, 2) := by decide +kernel
theorem dL_law__1350 : decode cL_law_ 1350 = .ok (.i2l, 1) := by decide +kernel
theorem dL_law__1351 : decode cL_law_ 1351 = .ok (.lcmp, 1) := by decide +kernel
theorem dL_law__1352 : decode cL_law_ 1352 = .ok (.ifCond .eq 5, 3) := by decide +kernel
theorem dL_law__1355 : decode cL_law_ 1355 = .ok (.iconst 0, 1) := by decide +kernel
theorem dL_law__1356 : decode cL_law_ 1356 = .ok (.ireturn, 1) := by decide +kernel
theorem dL_law__1357 : decode cL_law_ 1357 = .ok (.goto 414, 3) := by decide +kernel
theorem dL_law__1360 : decode cL_law_ 1360 = .ok (.aload_n 1, 1) := by decide +kernel
theorem dL_law__1361 : decode cL_law_ 1361 = .ok (.aload_n 0, 1) := by decide +kernel
theorem dL_law__1362 : decode cL_law_ 1362 = .ok (.iload 4, 2) := by decide +kernel
theorem dL_law__1364 : decode cL_law_ 1364 = .ok (.iconst 1, 1) := by decide +kernel
theorem dL_law__1365 : decode cL_law_ 1365 = .ok (.iadd, 1) := by decide +kernel
theorem dL_law__1366 : decode cL_law_ 1366 = .ok (.iaload, 1) := by decide +kernel
theorem dL_law__1367 : decode cL_law_ 1367 = .ok (.aload_n 0, 1) := by decide +kernel
theorem dL_law__1368 : decode cL_law_ 1368 = .ok (.iload 4, 2) := by decide +kernel
theorem dL_law__1370 : decode cL_law_ 1370 = .ok (.iconst 2, 1) := by decide +kernel
theorem dL_law__1371 : decode cL_law_ 1371 = .ok (.iadd, 1) := by decide +kernel
theorem dL_law__1372 : decode cL_law_ 1372 = .ok (.iaload, 1) := by decide +kernel
theorem dL_law__1373 : decode cL_law_ 1373 = .ok (.aload_n 3, 1) := by decide +kernel
theorem dL_law__1374 : decode cL_law_ 1374 = .ok (.invokestatic 178, 3) := by decide +kernel
theorem dL_law__1377 : decode cL_law_ 1377 = .ok (.istore 5, 2) := by decide +kernel
theorem dL_law__1379 : decode cL_law_ 1379 = .ok (.aload_n 2, 1) := by decide +kernel
theorem dL_law__1380 : decode cL_law_ 1380 = .ok (.aload_n 0, 1) := by decide +kernel
theorem dL_law__1381 : decode cL_law_ 1381 = .ok (.iload 4, 2) := by decide +kernel
theorem dL_law__1383 : decode cL_law_ 1383 = .ok (.iconst 1, 1) := by decide +kernel
theorem dL_law__1384 : decode cL_law_ 1384 = .ok (.iadd, 1) := by decide +kernel
theorem dL_law__1385 : decode cL_law_ 1385 = .ok (.iaload, 1) := by decide +kernel
theorem dL_law__1386 : decode cL_law_ 1386 = .ok (.aload_n 0, 1) := by decide +kernel
theorem dL_law__1387 : decode cL_law_ 1387 = .ok (.iload 4, 2) := by decide +kernel
theorem dL_law__1389 : decode cL_law_ 1389 = .ok (.iconst 2, 1) := by decide +kernel
theorem dL_law__1390 : decode cL_law_ 1390 = .ok (.iadd, 1) := by decide +kernel
theorem dL_law__1391 : decode cL_law_ 1391 = .ok (.iaload, 1) := by decide +kernel
theorem dL_law__1392 : decode cL_law_ 1392 = .ok (.invokevirtual 180, 3) := by decide +kernel
theorem dL_law__1395 : decode cL_law_ 1395 = .ok (.istore 6, 2) := by decide +kernel
theorem dL_law__1397 : decode cL_law_ 1397 = .ok (.aload_n 2, 1) := by decide +kernel
theorem dL_law__1398 : decode cL_law_ 1398 = .ok (.invokevirtual 102, 3) := by decide +kernel
theorem dL_law__1401 : decode cL_law_ 1401 = .ok (.iload 5, 2) := by decide +kernel
theorem dL_law__1403 : decode cL_law_ 1403 = .ok (.if_icmp .eq 5, 3) := by decide +kernel
theorem dL_law__1406 : decode cL_law_ 1406 = .ok (.iconst 0, 1) := by decide +kernel
theorem dL_law__1407 : decode cL_law_ 1407 = .ok (.ireturn, 1) := by decide +kernel
theorem dL_law__1408 : decode cL_law_ 1408 = .ok (.iload 5, 2) := by decide +kernel
theorem dL_law__1410 : decode cL_law_ 1410 = .ok (.ifCond .ne 15, 3) := by decide +kernel
theorem dL_law__1413 : decode cL_law_ 1413 = .ok (.aload_n 3, 1) := by decide +kernel
theorem dL_law__1414 : decode cL_law_ 1414 = .ok (.iconst 0, 1) := by decide +kernel
theorem dL_law__1415 : decode cL_law_ 1415 = .ok (.laload, 1) := by decide +kernel
theorem dL_law__1416 : decode cL_law_ 1416 = .ok (.iload 6, 2) := by decide +kernel
theorem dL_law__1418 : decode cL_law_ 1418 = .ok (.i2l, 1) := by decide +kernel
theorem dL_law__1419 : decode cL_law_ 1419 = .ok (.lcmp, 1) := by decide +kernel
theorem dL_law__1420 : decode cL_law_ 1420 = .ok (.ifCond .eq 5, 3) := by decide +kernel
theorem dL_law__1423 : decode cL_law_ 1423 = .ok (.iconst 0, 1) := by decide +kernel
theorem dL_law__1424 : decode cL_law_ 1424 = .ok (.ireturn, 1) := by decide +kernel
theorem dL_law__1425 : decode cL_law_ 1425 = .ok (.goto 346, 3) := by decide +kernel
theorem dL_law__1428 : decode cL_law_ 1428 = .ok (.aload_n 1, 1) := by decide +kernel
theorem dL_law__1429 : decode cL_law_ 1429 = .ok (.aload_n 0, 1) := by decide +kernel
theorem dL_law__1430 : decode cL_law_ 1430 = .ok (.iload 4, 2) := by decide +kernel
theorem dL_law__1432 : decode cL_law_ 1432 = .ok (.iconst 1, 1) := by decide +kernel
theorem dL_law__1433 : decode cL_law_ 1433 = .ok (.iadd, 1) := by decide +kernel
theorem dL_law__1434 : decode cL_law_ 1434 = .ok (.iaload, 1) := by decide +kernel
theorem dL_law__1435 : decode cL_law_ 1435 = .ok (.aload_n 0, 1) := by decide +kernel
theorem dL_law__1436 : decode cL_law_ 1436 = .ok (.iload 4, 2) := by decide +kernel
theorem dL_law__1438 : decode cL_law_ 1438 = .ok (.iconst 2, 1) := by decide +kernel
theorem dL_law__1439 : decode cL_law_ 1439 = .ok (.iadd, 1) := by decide +kernel
theorem dL_law__1440 : decode cL_law_ 1440 = .ok (.iaload, 1) := by decide +kernel
theorem dL_law__1441 : decode cL_law_ 1441 = .ok (.ifCond .eq 7, 3) := by decide +kernel
theorem dL_law__1444 : decode cL_law_ 1444 = .ok (.iconst 1, 1) := by decide +kernel
theorem dL_law__1445 : decode cL_law_ 1445 = .ok (.goto 4, 3) := by decide +kernel
theorem dL_law__1448 : decode cL_law_ 1448 = .ok (.iconst 0, 1) := by decide +kernel
theorem dL_law__1449 : decode cL_law_ 1449 = .ok (.aload_n 3, 1) := by decide +kernel
theorem dL_law__1450 : decode cL_law_ 1450 = .ok (.invokestatic 181, 3) := by decide +kernel
theorem dL_law__1453 : decode cL_law_ 1453 = .ok (.istore 5, 2) := by decide +kernel
theorem dL_law__1455 : decode cL_law_ 1455 = .ok (.aload_n 2, 1) := by decide +kernel
theorem dL_law__1456 : decode cL_law_ 1456 = .ok (.aload_n 0, 1) := by decide +kernel
theorem dL_law__1457 : decode cL_law_ 1457 = .ok (.iload 4, 2) := by decide +kernel
theorem dL_law__1459 : decode cL_law_ 1459 = .ok (.iconst 1, 1) := by decide +kernel
theorem dL_law__1460 : decode cL_law_ 1460 = .ok (.iadd, 1) := by decide +kernel
theorem dL_law__1461 : decode cL_law_ 1461 = .ok (.iaload, 1) := by decide +kernel
theorem dL_law__1462 : decode cL_law_ 1462 = .ok (.aload_n 0, 1) := by decide +kernel
theorem dL_law__1463 : decode cL_law_ 1463 = .ok (.iload 4, 2) := by decide +kernel
theorem dL_law__1465 : decode cL_law_ 1465 = .ok (.iconst 2, 1) := by decide +kernel
theorem dL_law__1466 : decode cL_law_ 1466 = .ok (.iadd, 1) := by decide +kernel
theorem dL_law__1467 : decode cL_law_ 1467 = .ok (.iaload, 1) := by decide +kernel
theorem dL_law__1468 : decode cL_law_ 1468 = .ok (.ifCond .eq 7, 3) := by decide +kernel
theorem dL_law__1471 : decode cL_law_ 1471 = .ok (.iconst 1, 1) := by decide +kernel
theorem dL_law__1472 : decode cL_law_ 1472 = .ok (.goto 4, 3) := by decide +kernel
theorem dL_law__1475 : decode cL_law_ 1475 = .ok (.iconst 0, 1) := by decide +kernel
theorem dL_law__1476 : decode cL_law_ 1476 = .ok (.invokevirtual 184, 3) := by decide +kernel
theorem dL_law__1479 : decode cL_law_ 1479 = .ok (.istore 6, 2) := by decide +kernel
theorem dL_law__1481 : decode cL_law_ 1481 = .ok (.aload_n 2, 1) := by decide +kernel
theorem dL_law__1482 : decode cL_law_ 1482 = .ok (.invokevirtual 102, 3) := by decide +kernel
theorem dL_law__1485 : decode cL_law_ 1485 = .ok (.iload 5, 2) := by decide +kernel
theorem dL_law__1487 : decode cL_law_ 1487 = .ok (.if_icmp .eq 5, 3) := by decide +kernel
theorem dL_law__1490 : decode cL_law_ 1490 = .ok (.iconst 0, 1) := by decide +kernel
theorem dL_law__1491 : decode cL_law_ 1491 = .ok (.ireturn, 1) := by decide +kernel
theorem dL_law__1492 : decode cL_law_ 1492 = .ok (.iload 5, 2) := by decide +kernel
theorem dL_law__1494 : decode cL_law_ 1494 = .ok (.ifCond .ne 15, 3) := by decide +kernel
theorem dL_law__1497 : decode cL_law_ 1497 = .ok (.aload_n 3, 1) := by decide +kernel
theorem dL_law__1498 : decode cL_law_ 1498 = .ok (.iconst 0, 1) := by decide +kernel
theorem dL_law__1499 : decode cL_law_ 1499 = .ok (.laload, 1) := by decide +kernel
theorem dL_law__1500 : decode cL_law_ 1500 = .ok (.iload 6, 2) := by decide +kernel
theorem dL_law__1502 : decode cL_law_ 1502 = .ok (.i2l, 1) := by decide +kernel
theorem dL_law__1503 : decode cL_law_ 1503 = .ok (.lcmp, 1) := by decide +kernel
theorem dL_law__1504 : decode cL_law_ 1504 = .ok (.ifCond .eq 5, 3) := by decide +kernel
theorem dL_law__1507 : decode cL_law_ 1507 = .ok (.iconst 0, 1) := by decide +kernel
theorem dL_law__1508 : decode cL_law_ 1508 = .ok (.ireturn, 1) := by decide +kernel
theorem dL_law__1509 : decode cL_law_ 1509 = .ok (.goto 262, 3) := by decide +kernel
theorem dL_law__1512 : decode cL_law_ 1512 = .ok (.aload_n 1, 1) := by decide +kernel
theorem dL_law__1513 : decode cL_law_ 1513 = .ok (.aload_n 0, 1) := by decide +kernel
theorem dL_law__1514 : decode cL_law_ 1514 = .ok (.iload 4, 2) := by decide +kernel
theorem dL_law__1516 : decode cL_law_ 1516 = .ok (.iconst 1, 1) := by decide +kernel
theorem dL_law__1517 : decode cL_law_ 1517 = .ok (.iadd, 1) := by decide +kernel
theorem dL_law__1518 : decode cL_law_ 1518 = .ok (.iaload, 1) := by decide +kernel
theorem dL_law__1519 : decode cL_law_ 1519 = .ok (.aload_n 0, 1) := by decide +kernel
theorem dL_law__1520 : decode cL_law_ 1520 = .ok (.iload 4, 2) := by decide +kernel
theorem dL_law__1522 : decode cL_law_ 1522 = .ok (.iconst 2, 1) := by decide +kernel
theorem dL_law__1523 : decode cL_law_ 1523 = .ok (.iadd, 1) := by decide +kernel
theorem dL_law__1524 : decode cL_law_ 1524 = .ok (.iaload, 1) := by decide +kernel
theorem dL_law__1525 : decode cL_law_ 1525 = .ok (.aload_n 0, 1) := by decide +kernel
theorem dL_law__1526 : decode cL_law_ 1526 = .ok (.iload 4, 2) := by decide +kernel
theorem dL_law__1528 : decode cL_law_ 1528 = .ok (.iconst 3, 1) := by decide +kernel
theorem dL_law__1529 : decode cL_law_ 1529 = .ok (.iadd, 1) := by decide +kernel
theorem dL_law__1530 : decode cL_law_ 1530 = .ok (.iaload, 1) := by decide +kernel
theorem dL_law__1531 : decode cL_law_ 1531 = .ok (.aload_n 3, 1) := by decide +kernel
theorem dL_law__1532 : decode cL_law_ 1532 = .ok (.invokestatic 185, 3) := by decide +kernel
theorem dL_law__1535 : decode cL_law_ 1535 = .ok (.istore 5, 2) := by decide +kernel
theorem dL_law__1537 : decode cL_law_ 1537 = .ok (.aload_n 2, 1) := by decide +kernel
theorem dL_law__1538 : decode cL_law_ 1538 = .ok (.aload_n 0, 1) := by decide +kernel
theorem dL_law__1539 : decode cL_law_ 1539 = .ok (.iload 4, 2) := by decide +kernel
theorem dL_law__1541 : decode cL_law_ 1541 = .ok (.iconst 1, 1) := by decide +kernel
theorem dL_law__1542 : decode cL_law_ 1542 = .ok (.iadd, 1) := by decide +kernel
theorem dL_law__1543 : decode cL_law_ 1543 = .ok (.iaload, 1) := by decide +kernel
theorem dL_law__1544 : decode cL_law_ 1544 = .ok (.aload_n 0, 1) := by decide +kernel
theorem dL_law__1545 : decode cL_law_ 1545 = .ok (.iload 4, 2) := by decide +kernel
theorem dL_law__1547 : decode cL_law_ 1547 = .ok (.iconst 2, 1) := by decide +kernel
theorem dL_law__1548 : decode cL_law_ 1548 = .ok (.iadd, 1) := by decide +kernel
theorem dL_law__1549 : decode cL_law_ 1549 = .ok (.iaload, 1) := by decide +kernel
theorem dL_law__1550 : decode cL_law_ 1550 = .ok (.aload_n 0, 1) := by decide +kernel
theorem dL_law__1551 : decode cL_law_ 1551 = .ok (.iload 4, 2) := by decide +kernel
theorem dL_law__1553 : decode cL_law_ 1553 = .ok (.iconst 3, 1) := by decide +kernel
theorem dL_law__1554 : decode cL_law_ 1554 = .ok (.iadd, 1) := by decide +kernel
theorem dL_law__1555 : decode cL_law_ 1555 = .ok (.iaload, 1) := by decide +kernel
theorem dL_law__1556 : decode cL_law_ 1556 = .ok (.invokevirtual 187, 3) := by decide +kernel
theorem dL_law__1559 : decode cL_law_ 1559 = .ok (.istore 6, 2) := by decide +kernel
theorem dL_law__1561 : decode cL_law_ 1561 = .ok (.aload_n 2, 1) := by decide +kernel
theorem dL_law__1562 : decode cL_law_ 1562 = .ok (.invokevirtual 102, 3) := by decide +kernel
theorem dL_law__1565 : decode cL_law_ 1565 = .ok (.iload 5, 2) := by decide +kernel
theorem dL_law__1567 : decode cL_law_ 1567 = .ok (.if_icmp .eq 5, 3) := by decide +kernel
theorem dL_law__1570 : decode cL_law_ 1570 = .ok (.iconst 0, 1) := by decide +kernel
theorem dL_law__1571 : decode cL_law_ 1571 = .ok (.ireturn, 1) := by decide +kernel
theorem dL_law__1572 : decode cL_law_ 1572 = .ok (.iload 5, 2) := by decide +kernel
theorem dL_law__1574 : decode cL_law_ 1574 = .ok (.ifCond .ne 15, 3) := by decide +kernel
theorem dL_law__1577 : decode cL_law_ 1577 = .ok (.aload_n 3, 1) := by decide +kernel
theorem dL_law__1578 : decode cL_law_ 1578 = .ok (.iconst 0, 1) := by decide +kernel
theorem dL_law__1579 : decode cL_law_ 1579 = .ok (.laload, 1) := by decide +kernel
theorem dL_law__1580 : decode cL_law_ 1580 = .ok (.iload 6, 2) := by decide +kernel
theorem dL_law__1582 : decode cL_law_ 1582 = .ok (.i2l, 1) := by decide +kernel
theorem dL_law__1583 : decode cL_law_ 1583 = .ok (.lcmp, 1) := by decide +kernel
theorem dL_law__1584 : decode cL_law_ 1584 = .ok (.ifCond .eq 5, 3) := by decide +kernel
theorem dL_law__1587 : decode cL_law_ 1587 = .ok (.iconst 0, 1) := by decide +kernel
theorem dL_law__1588 : decode cL_law_ 1588 = .ok (.ireturn, 1) := by decide +kernel
theorem dL_law__1589 : decode cL_law_ 1589 = .ok (.goto 182, 3) := by decide +kernel
theorem dL_law__1592 : decode cL_law_ 1592 = .ok (.aload_n 1, 1) := by decide +kernel
theorem dL_law__1593 : decode cL_law_ 1593 = .ok (.aload_n 0, 1) := by decide +kernel
theorem dL_law__1594 : decode cL_law_ 1594 = .ok (.iload 4, 2) := by decide +kernel
theorem dL_law__1596 : decode cL_law_ 1596 = .ok (.iconst 1, 1) := by decide +kernel
theorem dL_law__1597 : decode cL_law_ 1597 = .ok (.iadd, 1) := by decide +kernel
theorem dL_law__1598 : decode cL_law_ 1598 = .ok (.iaload, 1) := by decide +kernel
theorem dL_law__1599 : decode cL_law_ 1599 = .ok (.aload_n 3, 1) := by decide +kernel
theorem dL_law__1600 : decode cL_law_ 1600 = .ok (.invokestatic 188, 3) := by decide +kernel
theorem dL_law__1603 : decode cL_law_ 1603 = .ok (.istore 5, 2) := by decide +kernel
theorem dL_law__1605 : decode cL_law_ 1605 = .ok (.aload_n 2, 1) := by decide +kernel
theorem dL_law__1606 : decode cL_law_ 1606 = .ok (.aload_n 0, 1) := by decide +kernel
theorem dL_law__1607 : decode cL_law_ 1607 = .ok (.iload 4, 2) := by decide +kernel
theorem dL_law__1609 : decode cL_law_ 1609 = .ok (.iconst 1, 1) := by decide +kernel
theorem dL_law__1610 : decode cL_law_ 1610 = .ok (.iadd, 1) := by decide +kernel
theorem dL_law__1611 : decode cL_law_ 1611 = .ok (.iaload, 1) := by decide +kernel
theorem dL_law__1612 : decode cL_law_ 1612 = .ok (.invokevirtual 190, 3) := by decide +kernel
theorem dL_law__1615 : decode cL_law_ 1615 = .ok (.istore 6, 2) := by decide +kernel
theorem dL_law__1617 : decode cL_law_ 1617 = .ok (.aload_n 2, 1) := by decide +kernel
theorem dL_law__1618 : decode cL_law_ 1618 = .ok (.invokevirtual 102, 3) := by decide +kernel
theorem dL_law__1621 : decode cL_law_ 1621 = .ok (.iload 5, 2) := by decide +kernel
theorem dL_law__1623 : decode cL_law_ 1623 = .ok (.if_icmp .eq 5, 3) := by decide +kernel
theorem dL_law__1626 : decode cL_law_ 1626 = .ok (.iconst 0, 1) := by decide +kernel
theorem dL_law__1627 : decode cL_law_ 1627 = .ok (.ireturn, 1) := by decide +kernel
theorem dL_law__1628 : decode cL_law_ 1628 = .ok (.iload 5, 2) := by decide +kernel
theorem dL_law__1630 : decode cL_law_ 1630 = .ok (.ifCond .ne 15, 3) := by decide +kernel
theorem dL_law__1633 : decode cL_law_ 1633 = .ok (.aload_n 3, 1) := by decide +kernel
theorem dL_law__1634 : decode cL_law_ 1634 = .ok (.iconst 0, 1) := by decide +kernel
theorem dL_law__1635 : decode cL_law_ 1635 = .ok (.laload, 1) := by decide +kernel
theorem dL_law__1636 : decode cL_law_ 1636 = .ok (.iload 6, 2) := by decide +kernel
theorem dL_law__1638 : decode cL_law_ 1638 = .ok (.i2l, 1) := by decide +kernel
theorem dL_law__1639 : decode cL_law_ 1639 = .ok (.lcmp, 1) := by decide +kernel
theorem dL_law__1640 : decode cL_law_ 1640 = .ok (.ifCond .eq 5, 3) := by decide +kernel
theorem dL_law__1643 : decode cL_law_ 1643 = .ok (.iconst 0, 1) := by decide +kernel
theorem dL_law__1644 : decode cL_law_ 1644 = .ok (.ireturn, 1) := by decide +kernel
theorem dL_law__1645 : decode cL_law_ 1645 = .ok (.goto 126, 3) := by decide +kernel
theorem dL_law__1648 : decode cL_law_ 1648 = .ok (.aload_n 1, 1) := by decide +kernel
theorem dL_law__1649 : decode cL_law_ 1649 = .ok (.aload_n 0, 1) := by decide +kernel
theorem dL_law__1650 : decode cL_law_ 1650 = .ok (.iload 4, 2) := by decide +kernel
theorem dL_law__1652 : decode cL_law_ 1652 = .ok (.iconst 1, 1) := by decide +kernel
theorem dL_law__1653 : decode cL_law_ 1653 = .ok (.iadd, 1) := by decide +kernel
theorem dL_law__1654 : decode cL_law_ 1654 = .ok (.iaload, 1) := by decide +kernel
theorem dL_law__1655 : decode cL_law_ 1655 = .ok (.aload_n 0, 1) := by decide +kernel
theorem dL_law__1656 : decode cL_law_ 1656 = .ok (.iload 4, 2) := by decide +kernel
theorem dL_law__1658 : decode cL_law_ 1658 = .ok (.iconst 2, 1) := by decide +kernel
theorem dL_law__1659 : decode cL_law_ 1659 = .ok (.iadd, 1) := by decide +kernel
theorem dL_law__1660 : decode cL_law_ 1660 = .ok (.iaload, 1) := by decide +kernel
theorem dL_law__1661 : decode cL_law_ 1661 = .ok (.aload_n 3, 1) := by decide +kernel
theorem dL_law__1662 : decode cL_law_ 1662 = .ok (.invokestatic 191, 3) := by decide +kernel
theorem dL_law__1665 : decode cL_law_ 1665 = .ok (.istore 5, 2) := by decide +kernel
theorem dL_law__1667 : decode cL_law_ 1667 = .ok (.aload_n 2, 1) := by decide +kernel
theorem dL_law__1668 : decode cL_law_ 1668 = .ok (.aload_n 0, 1) := by decide +kernel
theorem dL_law__1669 : decode cL_law_ 1669 = .ok (.iload 4, 2) := by decide +kernel
theorem dL_law__1671 : decode cL_law_ 1671 = .ok (.iconst 1, 1) := by decide +kernel
theorem dL_law__1672 : decode cL_law_ 1672 = .ok (.iadd, 1) := by decide +kernel
theorem dL_law__1673 : decode cL_law_ 1673 = .ok (.iaload, 1) := by decide +kernel
theorem dL_law__1674 : decode cL_law_ 1674 = .ok (.aload_n 0, 1) := by decide +kernel
theorem dL_law__1675 : decode cL_law_ 1675 = .ok (.iload 4, 2) := by decide +kernel
theorem dL_law__1677 : decode cL_law_ 1677 = .ok (.iconst 2, 1) := by decide +kernel
theorem dL_law__1678 : decode cL_law_ 1678 = .ok (.iadd, 1) := by decide +kernel
theorem dL_law__1679 : decode cL_law_ 1679 = .ok (.iaload, 1) := by decide +kernel
theorem dL_law__1680 : decode cL_law_ 1680 = .ok (.invokevirtual 193, 3) := by decide +kernel
theorem dL_law__1683 : decode cL_law_ 1683 = .ok (.istore 6, 2) := by decide +kernel
theorem dL_law__1685 : decode cL_law_ 1685 = .ok (.aload_n 2, 1) := by decide +kernel
theorem dL_law__1686 : decode cL_law_ 1686 = .ok (.invokevirtual 102, 3) := by decide +kernel
theorem dL_law__1689 : decode cL_law_ 1689 = .ok (.iload 5, 2) := by decide +kernel
theorem dL_law__1691 : decode cL_law_ 1691 = .ok (.if_icmp .eq 5, 3) := by decide +kernel
theorem dL_law__1694 : decode cL_law_ 1694 = .ok (.iconst 0, 1) := by decide +kernel
theorem dL_law__1695 : decode cL_law_ 1695 = .ok (.ireturn, 1) := by decide +kernel
theorem dL_law__1696 : decode cL_law_ 1696 = .ok (.iload 5, 2) := by decide +kernel
theorem dL_law__1698 : decode cL_law_ 1698 = .ok (.ifCond .ne 15, 3) := by decide +kernel
theorem dL_law__1701 : decode cL_law_ 1701 = .ok (.aload_n 3, 1) := by decide +kernel
theorem dL_law__1702 : decode cL_law_ 1702 = .ok (.iconst 0, 1) := by decide +kernel
theorem dL_law__1703 : decode cL_law_ 1703 = .ok (.laload, 1) := by decide +kernel
theorem dL_law__1704 : decode cL_law_ 1704 = .ok (.iload 6, 2) := by decide +kernel
theorem dL_law__1706 : decode cL_law_ 1706 = .ok (.i2l, 1) := by decide +kernel
theorem dL_law__1707 : decode cL_law_ 1707 = .ok (.lcmp, 1) := by decide +kernel
theorem dL_law__1708 : decode cL_law_ 1708 = .ok (.ifCond .eq 5, 3) := by decide +kernel
theorem dL_law__1711 : decode cL_law_ 1711 = .ok (.iconst 0, 1) := by decide +kernel
theorem dL_law__1712 : decode cL_law_ 1712 = .ok (.ireturn, 1) := by decide +kernel
theorem dL_law__1713 : decode cL_law_ 1713 = .ok (.goto 58, 3) := by decide +kernel
theorem dL_law__1716 : decode cL_law_ 1716 = .ok (.aload_n 1, 1) := by decide +kernel
theorem dL_law__1717 : decode cL_law_ 1717 = .ok (.invokevirtual 194, 3) := by decide +kernel
theorem dL_law__1720 : decode cL_law_ 1720 = .ok (.dstore 5, 2) := by decide +kernel
theorem dL_law__1722 : decode cL_law_ 1722 = .ok (.aload_n 2, 1) := by decide +kernel
theorem dL_law__1723 : decode cL_law_ 1723 = .ok (.invokevirtual 198, 3) := by decide +kernel
theorem dL_law__1726 : decode cL_law_ 1726 = .ok (.dstore 7, 2) := by decide +kernel
theorem dL_law__1728 : decode cL_law_ 1728 = .ok (.dload 5, 2) := by decide +kernel
theorem dL_law__1730 : decode cL_law_ 1730 = .ok (.dload 7, 2) := by decide +kernel
theorem dL_law__1732 : decode cL_law_ 1732 = .ok (.dcmp .l, 1) := by decide +kernel
theorem dL_law__1733 : decode cL_law_ 1733 = .ok (.ifCond .eq 21, 3) := by decide +kernel
theorem dL_law__1736 : decode cL_law_ 1736 = .ok (.dload 5, 2) := by decide +kernel
theorem dL_law__1738 : decode cL_law_ 1738 = .ok (.dload 5, 2) := by decide +kernel
theorem dL_law__1740 : decode cL_law_ 1740 = .ok (.dcmp .l, 1) := by decide +kernel
theorem dL_law__1741 : decode cL_law_ 1741 = .ok (.ifCond .eq 11, 3) := by decide +kernel
theorem dL_law__1744 : decode cL_law_ 1744 = .ok (.dload 7, 2) := by decide +kernel
theorem dL_law__1746 : decode cL_law_ 1746 = .ok (.dload 7, 2) := by decide +kernel
theorem dL_law__1748 : decode cL_law_ 1748 = .ok (.dcmp .l, 1) := by decide +kernel
theorem dL_law__1749 : decode cL_law_ 1749 = .ok (.ifCond .ne 5, 3) := by decide +kernel
theorem dL_law__1752 : decode cL_law_ 1752 = .ok (.iconst 0, 1) := by decide +kernel
theorem dL_law__1753 : decode cL_law_ 1753 = .ok (.ireturn, 1) := by decide +kernel
theorem dL_law__1754 : decode cL_law_ 1754 = .ok (.goto 17, 3) := by decide +kernel
theorem dL_law__1757 : decode cL_law_ 1757 = .ok (.aload_n 1, 1) := by decide +kernel
theorem dL_law__1758 : decode cL_law_ 1758 = .ok (.invokevirtual 199, 3) := by decide +kernel
theorem dL_law__1761 : decode cL_law_ 1761 = .ok (.aload_n 2, 1) := by decide +kernel
theorem dL_law__1762 : decode cL_law_ 1762 = .ok (.invokevirtual 203, 3) := by decide +kernel
theorem dL_law__1765 : decode cL_law_ 1765 = .ok (.lcmp, 1) := by decide +kernel
theorem dL_law__1766 : decode cL_law_ 1766 = .ok (.ifCond .eq 5, 3) := by decide +kernel
theorem dL_law__1769 : decode cL_law_ 1769 = .ok (.iconst 0, 1) := by decide +kernel
theorem dL_law__1770 : decode cL_law_ 1770 = .ok (.ireturn, 1) := by decide +kernel
theorem dL_law__1771 : decode cL_law_ 1771 = .ok (.iinc 4 4, 3) := by decide +kernel
theorem dL_law__1774 : decode cL_law_ 1774 = .ok (.goto (-1751), 3) := by decide +kernel
theorem dL_law__1777 : decode cL_law_ 1777 = .ok (.iconst 1, 1) := by decide +kernel
theorem dL_law__1778 : decode cL_law_ 1778 = .ok (.ireturn, 1) := by decide +kernel
abbrev vwCl : List vw_C := [(RX0, TX0, 12), (RX1, TX1, 9), (RX2, TX2, 3), (RX3, TX3, 2), (RX4, TX4, 2), (RX5, TX5, 5), (RX6, TX6, 12)]

