theorem dX0_gateOfFewestElls_1 : decode cX0_gateOfFewestElls 1 = .ok (.istore_n 2, 1) := by decide +kernel
theorem dX0_gateOfFewestElls_2 : decode cX0_gateOfFewestElls 2 = .ok (.iconst 1, 1) := by decide +kernel
theorem dX0_gateOfFewestElls_3 : decode cX0_gateOfFewestElls 3 = .ok (.istore_n 3, 1) := by decide +kernel
theorem dX0_gateOfFewestElls_4 : decode cX0_gateOfFewestElls 4 = .ok (.iload_n 3, 1) := by decide +kernel
theorem dX0_gateOfFewestElls_5 : decode cX0_gateOfFewestElls 5 = .ok (.iconst 3, 1) := by decide +kernel
theorem dX0_gateOfFewestElls_6 : decode cX0_gateOfFewestElls 6 = .ok (.if_icmp .ge 73, 3) := by decide +kernel
theorem dX0_gateOfFewestElls_9 : decode cX0_gateOfFewestElls 9 = .ok (.aload_n 0, 1) := by decide +kernel
theorem dX0_gateOfFewestElls_10 : decode cX0_gateOfFewestElls 10 = .ok (.iload_n 1, 1) := by decide +kernel
theorem dX0_gateOfFewestElls_11 : decode cX0_gateOfFewestElls 11 = .ok (.iload_n 3, 1) := by decide +kernel
theorem dX0_gateOfFewestElls_12 : decode cX0_gateOfFewestElls 12 = .ok (.invokevirtual 124, 3) := by decide +kernel
theorem dX0_gateOfFewestElls_15 : decode cX0_gateOfFewestElls 15 = .ok (.aload_n 0, 1) := by decide +kernel
theorem dX0_gateOfFewestElls_16 : decode cX0_gateOfFewestElls 16 = .ok (.iload_n 1, 1) := by decide +kernel
theorem dX0_gateOfFewestElls_17 : decode cX0_gateOfFewestElls 17 = .ok (.iload_n 2, 1) := by decide +kernel
theorem dX0_gateOfFewestElls_18 : decode cX0_gateOfFewestElls 18 = .ok (.invokevirtual 124, 3) := by decide +kernel
theorem dX0_gateOfFewestElls_21 : decode cX0_gateOfFewestElls 21 = .ok (.isub, 1) := by decide +kernel
theorem dX0_gateOfFewestElls_22 : decode cX0_gateOfFewestElls 22 = .ok (.istore 4, 2) := by decide +kernel
theorem dX0_gateOfFewestElls_24 : decode cX0_gateOfFewestElls 24 = .ok (.aload_n 0, 1) := by decide +kernel
theorem dX0_gateOfFewestElls_25 : decode cX0_gateOfFewestElls 25 = .ok (.getfield 21, 3) := by decide +kernel
theorem dX0_gateOfFewestElls_28 : decode cX0_gateOfFewestElls 28 = .ok (.getfield 191, 3) := by decide +kernel
theorem dX0_gateOfFewestElls_31 : decode cX0_gateOfFewestElls 31 = .ok (.iload_n 3, 1) := by decide +kernel
theorem dX0_gateOfFewestElls_32 : decode cX0_gateOfFewestElls 32 = .ok (.invokestatic 67, 3) := by decide +kernel
theorem dX0_gateOfFewestElls_35 : decode cX0_gateOfFewestElls 35 = .ok (.aload_n 0, 1) := by decide +kernel
theorem dX0_gateOfFewestElls_36 : decode cX0_gateOfFewestElls 36 = .ok (.getfield 21, 3) := by decide +kernel
theorem dX0_gateOfFewestElls_39 : decode cX0_gateOfFewestElls 39 = .ok (.getfield 191, 3) := by decide +kernel
theorem dX0_gateOfFewestElls_42 : decode cX0_gateOfFewestElls 42 = .ok (.iload_n 2, 1) := by decide +kernel
theorem dX0_gateOfFewestElls_43 : decode cX0_gateOfFewestElls 43 = .ok (.invokestatic 67, 3) := by decide +kernel
theorem dX0_gateOfFewestElls_46 : decode cX0_gateOfFewestElls 46 = .ok (.if_icmp .ge 7, 3) := by decide +kernel
theorem dX0_gateOfFewestElls_49 : decode cX0_gateOfFewestElls 49 = .ok (.iconst 1, 1) := by decide +kernel
theorem dX0_gateOfFewestElls_50 : decode cX0_gateOfFewestElls 50 = .ok (.goto 4, 3) := by decide +kernel
theorem dX0_gateOfFewestElls_53 : decode cX0_gateOfFewestElls 53 = .ok (.iconst 0, 1) := by decide +kernel
theorem dX0_gateOfFewestElls_54 : decode cX0_gateOfFewestElls 54 = .ok (.istore 5, 2) := by decide +kernel
theorem dX0_gateOfFewestElls_56 : decode cX0_gateOfFewestElls 56 = .ok (.iload 4, 2) := by decide +kernel
theorem dX0_gateOfFewestElls_58 : decode cX0_gateOfFewestElls 58 = .ok (.ifCond .lt 13, 3) := by decide +kernel
theorem dX0_gateOfFewestElls_61 : decode cX0_gateOfFewestElls 61 = .ok (.iload 4, 2) := by decide +kernel
theorem dX0_gateOfFewestElls_63 : decode cX0_gateOfFewestElls 63 = .ok (.ifCond .ne 10, 3) := by decide +kernel
theorem dX0_gateOfFewestElls_66 : decode cX0_gateOfFewestElls 66 = .ok (.iload 5, 2) := by decide +kernel
theorem dX0_gateOfFewestElls_68 : decode cX0_gateOfFewestElls 68 = .ok (.ifCond .eq 5, 3) := by decide +kernel
theorem dX0_gateOfFewestElls_71 : decode cX0_gateOfFewestElls 71 = .ok (.iload_n 3, 1) := by decide +kernel
theorem dX0_gateOfFewestElls_72 : decode cX0_gateOfFewestElls 72 = .ok (.istore_n 2, 1) := by decide +kernel
theorem dX0_gateOfFewestElls_73 : decode cX0_gateOfFewestElls 73 = .ok (.iinc 3 1, 3) := by decide +kernel
theorem dX0_gateOfFewestElls_76 : decode cX0_gateOfFewestElls 76 = .ok (.goto (-72), 3) := by decide +kernel
theorem dX0_gateOfFewestElls_79 : decode cX0_gateOfFewestElls 79 = .ok (.iload_n 2, 1) := by decide +kernel
theorem dX0_gateOfFewestElls_80 : decode cX0_gateOfFewestElls 80 = .ok (.ireturn, 1) := by decide +kernel
set_option maxRecDepth 20000 in
theorem ggX0_allowsLace_X1_wornLace : GoodIn wsX0_allowsLace wsX1_wornLace := goodIn_r _ [5, 6, 7, 8, 9, 3, 10, 11, 12, 13, 14, 15, 38, 39, 40, 41, 42, 43, 44, 45, 46] (by decide +kernel) (by decide +kernel)
set_option maxRecDepth 20000 in
theorem gX0_allowsLace_X1_wornLace_n109 : GoodIn wsX0_allowsLace (wsX1_wornLace) := ggX0_allowsLace_X1_wornLace
set_option maxRecDepth 20000 in
theorem ggX0_allowsLace_X5_at : GoodIn wsX0_allowsLace wsX5_at := goodIn_r _ [15] (by decide +kernel) (by decide +kernel)
set_option maxRecDepth 20000 in
theorem gX0_allowsLace_X5_at_n67 : GoodIn wsX0_allowsLace (wsX5_at) := ggX0_allowsLace_X5_at
set_option maxRecDepth 20000 in
theorem ggX0_allowsLace_X0_allowedElls : GoodIn wsX0_allowsLace wsX0_allowedElls := goodIn_r _ [20, 21, 22, 23, 24, 25, 13, 14, 15, 26, 27, 28, 29, 30, 31, 32, 33, 34, 35, 36, 37] (by decide +kernel) (by decide +kernel)
set_option maxRecDepth 20000 in
theorem gX0_allowsLace_X0_allowedElls : GoodIn wsX0_allowsLace (wsV RX0 118 RX0 yX0_allowedElls wsX0_allowedElls) := goodIn_app (goodIn_of _ (by decide +kernel)) ggX0_allowsLace_X0_allowedElls
theorem dX0_allowsLace_0 : decode cX0_allowsLace 0 = .ok (.aload_n 0, 1) := by decide +kernel
theorem dX0_allowsLace_1 : decode cX0_allowsLace 1 = .ok (.getfield 12, 3) := by decide +kernel
theorem dX0_allowsLace_4 : decode cX0_allowsLace 4 = .ok (.iload_n 1, 1) := by decide +kernel
theorem dX0_allowsLace_5 : decode cX0_allowsLace 5 = .ok (.invokevirtual 109, 3) := by decide +kernel
theorem dX0_allowsLace_8 : decode cX0_allowsLace 8 = .ok (.aload_n 0, 1) := by decide +kernel
theorem dX0_allowsLace_9 : decode cX0_allowsLace 9 = .ok (.iload_n 2, 1) := by decide +kernel
theorem dX0_allowsLace_10 : decode cX0_allowsLace 10 = .ok (.aload_n 0, 1) := by decide +kernel
theorem dX0_allowsLace_11 : decode cX0_allowsLace 11 = .ok (.getfield 12, 3) := by decide +kernel
theorem dX0_allowsLace_14 : decode cX0_allowsLace 14 = .ok (.getfield 112, 3) := by decide +kernel
theorem dX0_allowsLace_17 : decode cX0_allowsLace 17 = .ok (.iload_n 1, 1) := by decide +kernel
theorem dX0_allowsLace_18 : decode cX0_allowsLace 18 = .ok (.invokestatic 67, 3) := by decide +kernel
theorem dX0_allowsLace_21 : decode cX0_allowsLace 21 = .ok (.iload_n 3, 1) := by decide +kernel
theorem dX0_allowsLace_22 : decode cX0_allowsLace 22 = .ok (.invokevirtual 118, 3) := by decide +kernel
theorem dX0_allowsLace_25 : decode cX0_allowsLace 25 = .ok (.if_icmp .gt 7, 3) := by decide +kernel
theorem dX0_allowsLace_28 : decode cX0_allowsLace 28 = .ok (.iconst 1, 1) := by decide +kernel
theorem dX0_allowsLace_29 : decode cX0_allowsLace 29 = .ok (.goto 4, 3) := by decide +kernel
theorem dX0_allowsLace_32 : decode cX0_allowsLace 32 = .ok (.iconst 0, 1) := by decide +kernel
theorem dX0_allowsLace_33 : decode cX0_allowsLace 33 = .ok (.ireturn, 1) := by decide +kernel
set_option maxRecDepth 20000 in
theorem ggX0_nightsUntilAllowed_X0_allowsLace : GoodIn wsX0_nightsUntilAllowed wsX0_allowsLace := goodIn_r _ [6, 7, 8, 9, 10, 11, 12, 13, 14, 15, 16, 17, 18, 19, 20, 21, 22, 23, 24, 5, 25, 26, 27, 28, 29, 30, 31, 32, 33, 34, 35, 36, 37, 38, 39, 40, 41, 42, 43, 44, 45, 46, 47, 48, 49, 50, 51] (by decide +kernel) (by decide +kernel)
set_option maxRecDepth 20000 in
theorem gX0_nightsUntilAllowed_X0_allowsLace : GoodIn wsX0_nightsUntilAllowed (wsV RX0 194 RX0 yX0_allowsLace wsX0_allowsLace) := goodIn_app (goodIn_of _ (by decide +kernel)) ggX0_nightsUntilAllowed_X0_allowsLace
theorem dX0_nightsUntilAllowed_0 : decode cX0_nightsUntilAllowed 0 = .ok (.iconst 0, 1) := by decide +kernel
theorem dX0_nightsUntilAllowed_1 : decode cX0_nightsUntilAllowed 1 = .ok (.istore_n 3, 1) := by decide +kernel
theorem dX0_nightsUntilAllowed_2 : decode cX0_nightsUntilAllowed 2 = .ok (.iload_n 3, 1) := by decide +kernel
theorem dX0_nightsUntilAllowed_3 : decode cX0_nightsUntilAllowed 3 = .ok (.bipush 6, 2) := by decide +kernel
theorem dX0_nightsUntilAllowed_5 : decode cX0_nightsUntilAllowed 5 = .ok (.if_icmp .gt 26, 3) := by decide +kernel
theorem dX0_nightsUntilAllowed_8 : decode cX0_nightsUntilAllowed 8 = .ok (.aload_n 0, 1) := by decide +kernel
theorem dX0_nightsUntilAllowed_9 : decode cX0_nightsUntilAllowed 9 = .ok (.iload_n 1, 1) := by decide +kernel
theorem dX0_nightsUntilAllowed_10 : decode cX0_nightsUntilAllowed 10 = .ok (.iload_n 2, 1) := by decide +kernel
theorem dX0_nightsUntilAllowed_11 : decode cX0_nightsUntilAllowed 11 = .ok (.aload_n 0, 1) := by decide +kernel
theorem dX0_nightsUntilAllowed_12 : decode cX0_nightsUntilAllowed 12 = .ok (.getfield 115, 3) := by decide +kernel
theorem dX0_nightsUntilAllowed_15 : decode cX0_nightsUntilAllowed 15 = .ok (.iload_n 3, 1) := by decide +kernel
theorem dX0_nightsUntilAllowed_16 : decode cX0_nightsUntilAllowed 16 = .ok (.iadd, 1) := by decide +kernel
theorem dX0_nightsUntilAllowed_17 : decode cX0_nightsUntilAllowed 17 = .ok (.invokevirtual 194, 3) := by decide +kernel
theorem dX0_nightsUntilAllowed_20 : decode cX0_nightsUntilAllowed 20 = .ok (.ifCond .eq 5, 3) := by decide +kernel
theorem dX0_nightsUntilAllowed_23 : decode cX0_nightsUntilAllowed 23 = .ok (.iload_n 3, 1) := by decide +kernel
theorem dX0_nightsUntilAllowed_24 : decode cX0_nightsUntilAllowed 24 = .ok (.ireturn, 1) := by decide +kernel
theorem dX0_nightsUntilAllowed_25 : decode cX0_nightsUntilAllowed 25 = .ok (.iinc 3 1, 3) := by decide +kernel
theorem dX0_nightsUntilAllowed_28 : decode cX0_nightsUntilAllowed 28 = .ok (.goto (-26), 3) := by decide +kernel
theorem dX0_nightsUntilAllowed_31 : decode cX0_nightsUntilAllowed 31 = .ok (.iconst (-1), 1) := by decide +kernel
theorem dX0_nightsUntilAllowed_32 : decode cX0_nightsUntilAllowed 32 = .ok (.ireturn, 1) := by decide +kernel
set_option maxRecDepth 20000 in
theorem ggX0_shareOfDecent_X0_allowsLace : GoodIn wsX0_shareOfDecent wsX0_allowsLace := goodIn_r _ [7, 1, 8, 9, 10, 11, 12, 13, 14, 15, 16, 17, 18, 19, 20, 21, 22, 23, 24, 6, 25, 26, 27, 28, 29, 30, 31, 32, 33, 34, 35, 36, 37, 38, 39, 40, 41, 42, 43, 44, 45, 46, 47, 48, 49, 50, 51] (by decide +kernel) (by decide +kernel)
set_option maxRecDepth 20000 in
theorem gX0_shareOfDecent_X0_allowsLace : GoodIn wsX0_shareOfDecent (wsV RX0 194 RX0 yX0_allowsLace wsX0_allowsLace) := goodIn_app (goodIn_of _ (by decide +kernel)) ggX0_shareOfDecent_X0_allowsLace
theorem dX0_shareOfDecent_0 : decode cX0_shareOfDecent 0 = .ok (.aload_n 0, 1) := by decide +kernel
theorem dX0_shareOfDecent_1 : decode cX0_shareOfDecent 1 = .ok (.getfield 12, 3) := by decide +kernel
theorem dX0_shareOfDecent_4 : decode cX0_shareOfDecent 4 = .ok (.getfield 158, 3) := by decide +kernel
theorem dX0_shareOfDecent_7 : decode cX0_shareOfDecent 7 = .ok (.ifCond .gt 5, 3) := by decide +kernel
theorem dX0_shareOfDecent_10 : decode cX0_shareOfDecent 10 = .ok (.dconst 1, 1) := by decide +kernel
theorem dX0_shareOfDecent_11 : decode cX0_shareOfDecent 11 = .ok (.dreturn, 1) := by decide +kernel
theorem dX0_shareOfDecent_12 : decode cX0_shareOfDecent 12 = .ok (.iconst 0, 1) := by decide +kernel
theorem dX0_shareOfDecent_13 : decode cX0_shareOfDecent 13 = .ok (.istore_n 1, 1) := by decide +kernel
theorem dX0_shareOfDecent_14 : decode cX0_shareOfDecent 14 = .ok (.iconst 0, 1) := by decide +kernel
theorem dX0_shareOfDecent_15 : decode cX0_shareOfDecent 15 = .ok (.istore_n 2, 1) := by decide +kernel
theorem dX0_shareOfDecent_16 : decode cX0_shareOfDecent 16 = .ok (.iload_n 2, 1) := by decide +kernel
theorem dX0_shareOfDecent_17 : decode cX0_shareOfDecent 17 = .ok (.aload_n 0, 1) := by decide +kernel
theorem dX0_shareOfDecent_18 : decode cX0_shareOfDecent 18 = .ok (.getfield 12, 3) := by decide +kernel
theorem dX0_shareOfDecent_21 : decode cX0_shareOfDecent 21 = .ok (.getfield 158, 3) := by decide +kernel
theorem dX0_shareOfDecent_24 : decode cX0_shareOfDecent 24 = .ok (.if_icmp .ge 30, 3) := by decide +kernel
theorem dX0_shareOfDecent_27 : decode cX0_shareOfDecent 27 = .ok (.iload_n 1, 1) := by decide +kernel
theorem dX0_shareOfDecent_28 : decode cX0_shareOfDecent 28 = .ok (.aload_n 0, 1) := by decide +kernel
theorem dX0_shareOfDecent_29 : decode cX0_shareOfDecent 29 = .ok (.iload_n 2, 1) := by decide +kernel
theorem dX0_shareOfDecent_30 : decode cX0_shareOfDecent 30 = .ok (.iconst 0, 1) := by decide +kernel
theorem dX0_shareOfDecent_31 : decode cX0_shareOfDecent 31 = .ok (.aload_n 0, 1) := by decide +kernel
theorem dX0_shareOfDecent_32 : decode cX0_shareOfDecent 32 = .ok (.getfield 115, 3) := by decide +kernel
theorem dX0_shareOfDecent_35 : decode cX0_shareOfDecent 35 = .ok (.invokevirtual 194, 3) := by decide +kernel
theorem dX0_shareOfDecent_38 : decode cX0_shareOfDecent 38 = .ok (.ifCond .eq 7, 3) := by decide +kernel
theorem dX0_shareOfDecent_41 : decode cX0_shareOfDecent 41 = .ok (.iconst 1, 1) := by decide +kernel
theorem dX0_shareOfDecent_42 : decode cX0_shareOfDecent 42 = .ok (.goto 4, 3) := by decide +kernel
theorem dX0_shareOfDecent_45 : decode cX0_shareOfDecent 45 = .ok (.iconst 0, 1) := by decide +kernel
theorem dX0_shareOfDecent_46 : decode cX0_shareOfDecent 46 = .ok (.iadd, 1) := by decide +kernel
theorem dX0_shareOfDecent_47 : decode cX0_shareOfDecent 47 = .ok (.istore_n 1, 1) := by decide +kernel
theorem dX0_shareOfDecent_48 : decode cX0_shareOfDecent 48 = .ok (.iinc 2 1, 3) := by decide +kernel
theorem dX0_shareOfDecent_51 : decode cX0_shareOfDecent 51 = .ok (.goto (-35), 3) := by decide +kernel
theorem dX0_shareOfDecent_54 : decode cX0_shareOfDecent 54 = .ok (.iload_n 1, 1) := by decide +kernel
theorem dX0_shareOfDecent_55 : decode cX0_shareOfDecent 55 = .ok (.i2d, 1) := by decide +kernel
theorem dX0_shareOfDecent_56 : decode cX0_shareOfDecent 56 = .ok (.aload_n 0, 1) := by decide +kernel
theorem dX0_shareOfDecent_57 : decode cX0_shareOfDecent 57 = .ok (.getfield 12, 3) := by decide +kernel
theorem dX0_shareOfDecent_60 : decode cX0_shareOfDecent 60 = .ok (.getfield 158, 3) := by decide +kernel
theorem dX0_shareOfDecent_63 : decode cX0_shareOfDecent 63 = .ok (.i2d, 1) := by decide +kernel
theorem dX0_shareOfDecent_64 : decode cX0_shareOfDecent 64 = .ok (.ddiv, 1) := by decide +kernel
theorem dX0_shareOfDecent_65 : decode cX0_shareOfDecent 65 = .ok (.dreturn, 1) := by decide +kernel
set_option maxRecDepth 20000 in
theorem ggX0_guestNumber_X5_at : GoodIn wsX0_guestNumber wsX5_at := goodIn_r _ [5] (by decide +kernel) (by decide +kernel)
set_option maxRecDepth 20000 in
theorem gX0_guestNumber_X5_at_n67 : GoodIn wsX0_guestNumber (wsX5_at) := ggX0_guestNumber_X5_at
set_option maxRecDepth 20000 in
theorem ggX0_guestNumber_X1_wornCoat : GoodIn wsX0_guestNumber wsX1_wornCoat := goodIn_r _ [9, 10, 11, 3, 4, 5, 42, 43, 44, 45, 46, 47, 48, 49, 50] (by decide +kernel) (by decide +kernel)
set_option maxRecDepth 20000 in
theorem gX0_guestNumber_X1_wornCoat_n53 : GoodIn wsX0_guestNumber (wsX1_wornCoat) := ggX0_guestNumber_X1_wornCoat
set_option maxRecDepth 20000 in
theorem ggX0_guestNumber_X1_wornLace : GoodIn wsX0_guestNumber wsX1_wornLace := goodIn_r _ [14, 15, 16, 6, 8, 7, 9, 10, 11, 3, 4, 5, 42, 43, 44, 45, 46, 47, 48, 49, 50] (by decide +kernel) (by decide +kernel)
set_option maxRecDepth 20000 in
theorem gX0_guestNumber_X1_wornLace_n109 : GoodIn wsX0_guestNumber (wsX1_wornLace) := ggX0_guestNumber_X1_wornLace
set_option maxRecDepth 20000 in
theorem ggX0_guestNumber_X3_gateOf : GoodIn wsX0_guestNumber wsX3_gateOf := goodIn_r _ [20, 21, 22, 23, 18, 24, 25, 26, 3, 4, 5, 51, 52] (by decide +kernel) (by decide +kernel)
set_option maxRecDepth 20000 in
theorem gX0_guestNumber_X3_gateOf_n61 : GoodIn wsX0_guestNumber (wsX3_gateOf) := ggX0_guestNumber_X3_gateOf
set_option maxRecDepth 20000 in
theorem ggX0_guestNumber_X3_placeOf : GoodIn wsX0_guestNumber wsX3_placeOf := goodIn_r _ [29, 21, 22, 23, 18, 24, 25, 26, 3, 4, 5, 51, 52] (by decide +kernel) (by decide +kernel)
set_option maxRecDepth 20000 in
theorem gX0_guestNumber_X3_placeOf_n198 : GoodIn wsX0_guestNumber (wsX3_placeOf) := ggX0_guestNumber_X3_placeOf
theorem dX0_guestNumber_0 : decode cX0_guestNumber 0 = .ok (.iload_n 2, 1) := by decide +kernel
theorem dX0_guestNumber_1 : decode cX0_guestNumber 1 = .ok (.tableswitch 163 0 9 #[55, 67, 79, 91, 103, 112, 121, 133, 145, 154], 55) := by decide +kernel
theorem dX0_guestNumber_56 : decode cX0_guestNumber 56 = .ok (.aload_n 0, 1) := by decide +kernel
theorem dX0_guestNumber_57 : decode cX0_guestNumber 57 = .ok (.getfield 12, 3) := by decide +kernel
theorem dX0_guestNumber_60 : decode cX0_guestNumber 60 = .ok (.getfield 112, 3) := by decide +kernel
theorem dX0_guestNumber_63 : decode cX0_guestNumber 63 = .ok (.iload_n 1, 1) := by decide +kernel
theorem dX0_guestNumber_64 : decode cX0_guestNumber 64 = .ok (.invokestatic 67, 3) := by decide +kernel
theorem dX0_guestNumber_67 : decode cX0_guestNumber 67 = .ok (.ireturn, 1) := by decide +kernel
theorem dX0_guestNumber_68 : decode cX0_guestNumber 68 = .ok (.aload_n 0, 1) := by decide +kernel
theorem dX0_guestNumber_69 : decode cX0_guestNumber 69 = .ok (.getfield 12, 3) := by decide +kernel
theorem dX0_guestNumber_72 : decode cX0_guestNumber 72 = .ok (.getfield 71, 3) := by decide +kernel
theorem dX0_guestNumber_75 : decode cX0_guestNumber 75 = .ok (.iload_n 1, 1) := by decide +kernel
theorem dX0_guestNumber_76 : decode cX0_guestNumber 76 = .ok (.invokestatic 67, 3) := by decide +kernel
theorem dX0_guestNumber_79 : decode cX0_guestNumber 79 = .ok (.ireturn, 1) := by decide +kernel
theorem dX0_guestNumber_80 : decode cX0_guestNumber 80 = .ok (.aload_n 0, 1) := by decide +kernel
theorem dX0_guestNumber_81 : decode cX0_guestNumber 81 = .ok (.getfield 12, 3) := by decide +kernel
theorem dX0_guestNumber_84 : decode cX0_guestNumber 84 = .ok (.getfield 64, 3) := by decide +kernel
theorem dX0_guestNumber_87 : decode cX0_guestNumber 87 = .ok (.iload_n 1, 1) := by decide +kernel
theorem dX0_guestNumber_88 : decode cX0_guestNumber 88 = .ok (.invokestatic 67, 3) := by decide +kernel
theorem dX0_guestNumber_91 : decode cX0_guestNumber 91 = .ok (.ireturn, 1) := by decide +kernel
theorem dX0_guestNumber_92 : decode cX0_guestNumber 92 = .ok (.aload_n 0, 1) := by decide +kernel
theorem dX0_guestNumber_93 : decode cX0_guestNumber 93 = .ok (.getfield 12, 3) := by decide +kernel
theorem dX0_guestNumber_96 : decode cX0_guestNumber 96 = .ok (.getfield 74, 3) := by decide +kernel
theorem dX0_guestNumber_99 : decode cX0_guestNumber 99 = .ok (.iload_n 1, 1) := by decide +kernel
theorem dX0_guestNumber_100 : decode cX0_guestNumber 100 = .ok (.invokestatic 67, 3) := by decide +kernel
theorem dX0_guestNumber_103 : decode cX0_guestNumber 103 = .ok (.ireturn, 1) := by decide +kernel
theorem dX0_guestNumber_104 : decode cX0_guestNumber 104 = .ok (.aload_n 0, 1) := by decide +kernel
theorem dX0_guestNumber_105 : decode cX0_guestNumber 105 = .ok (.getfield 12, 3) := by decide +kernel
theorem dX0_guestNumber_108 : decode cX0_guestNumber 108 = .ok (.iload_n 1, 1) := by decide +kernel
theorem dX0_guestNumber_109 : decode cX0_guestNumber 109 = .ok (.invokevirtual 53, 3) := by decide +kernel
theorem dX0_guestNumber_112 : decode cX0_guestNumber 112 = .ok (.ireturn, 1) := by decide +kernel
theorem dX0_guestNumber_113 : decode cX0_guestNumber 113 = .ok (.aload_n 0, 1) := by decide +kernel
theorem dX0_guestNumber_114 : decode cX0_guestNumber 114 = .ok (.getfield 12, 3) := by decide +kernel
theorem dX0_guestNumber_117 : decode cX0_guestNumber 117 = .ok (.iload_n 1, 1) := by decide +kernel
theorem dX0_guestNumber_118 : decode cX0_guestNumber 118 = .ok (.invokevirtual 109, 3) := by decide +kernel
theorem dX0_guestNumber_121 : decode cX0_guestNumber 121 = .ok (.ireturn, 1) := by decide +kernel
theorem dX0_guestNumber_122 : decode cX0_guestNumber 122 = .ok (.aload_n 0, 1) := by decide +kernel
theorem dX0_guestNumber_123 : decode cX0_guestNumber 123 = .ok (.getfield 12, 3) := by decide +kernel
theorem dX0_guestNumber_126 : decode cX0_guestNumber 126 = .ok (.getfield 94, 3) := by decide +kernel
theorem dX0_guestNumber_129 : decode cX0_guestNumber 129 = .ok (.iload_n 1, 1) := by decide +kernel
theorem dX0_guestNumber_130 : decode cX0_guestNumber 130 = .ok (.invokestatic 67, 3) := by decide +kernel
theorem dX0_guestNumber_133 : decode cX0_guestNumber 133 = .ok (.ireturn, 1) := by decide +kernel
theorem dX0_guestNumber_134 : decode cX0_guestNumber 134 = .ok (.aload_n 0, 1) := by decide +kernel
theorem dX0_guestNumber_135 : decode cX0_guestNumber 135 = .ok (.getfield 12, 3) := by decide +kernel
theorem dX0_guestNumber_138 : decode cX0_guestNumber 138 = .ok (.getfield 146, 3) := by decide +kernel
theorem dX0_guestNumber_141 : decode cX0_guestNumber 141 = .ok (.iload_n 1, 1) := by decide +kernel
theorem dX0_guestNumber_142 : decode cX0_guestNumber 142 = .ok (.invokestatic 67, 3) := by decide +kernel
theorem dX0_guestNumber_145 : decode cX0_guestNumber 145 = .ok (.ireturn, 1) := by decide +kernel
theorem dX0_guestNumber_146 : decode cX0_guestNumber 146 = .ok (.aload_n 0, 1) := by decide +kernel
theorem dX0_guestNumber_147 : decode cX0_guestNumber 147 = .ok (.getfield 21, 3) := by decide +kernel
theorem dX0_guestNumber_150 : decode cX0_guestNumber 150 = .ok (.iload_n 1, 1) := by decide +kernel
theorem dX0_guestNumber_151 : decode cX0_guestNumber 151 = .ok (.invokevirtual 61, 3) := by decide +kernel
theorem dX0_guestNumber_154 : decode cX0_guestNumber 154 = .ok (.ireturn, 1) := by decide +kernel
theorem dX0_guestNumber_155 : decode cX0_guestNumber 155 = .ok (.aload_n 0, 1) := by decide +kernel
theorem dX0_guestNumber_156 : decode cX0_guestNumber 156 = .ok (.getfield 21, 3) := by decide +kernel
theorem dX0_guestNumber_159 : decode cX0_guestNumber 159 = .ok (.iload_n 1, 1) := by decide +kernel
theorem dX0_guestNumber_160 : decode cX0_guestNumber 160 = .ok (.invokevirtual 198, 3) := by decide +kernel
theorem dX0_guestNumber_163 : decode cX0_guestNumber 163 = .ok (.ireturn, 1) := by decide +kernel
theorem dX0_guestNumber_164 : decode cX0_guestNumber 164 = .ok (.aload_n 0, 1) := by decide +kernel
theorem dX0_guestNumber_165 : decode cX0_guestNumber 165 = .ok (.getfield 12, 3) := by decide +kernel
theorem dX0_guestNumber_168 : decode cX0_guestNumber 168 = .ok (.getfield 201, 3) := by decide +kernel
theorem dX0_guestNumber_171 : decode cX0_guestNumber 171 = .ok (.iload_n 1, 1) := by decide +kernel
theorem dX0_guestNumber_172 : decode cX0_guestNumber 172 = .ok (.invokestatic 67, 3) := by decide +kernel
theorem dX0_guestNumber_175 : decode cX0_guestNumber 175 = .ok (.ireturn, 1) := by decide +kernel
set_option maxRecDepth 20000 in
theorem ggX0_countNumber_X5_sumOf : GoodIn wsX0_countNumber wsX5_sumOf := goodIn_r _ [13, 14, 15, 12, 16] (by decide +kernel) (by decide +kernel)
set_option maxRecDepth 20000 in
theorem gX0_countNumber_X5_sumOf_n161 : GoodIn wsX0_countNumber (wsX5_sumOf) := ggX0_countNumber_X5_sumOf
set_option maxRecDepth 20000 in
theorem ggX0_countNumber_X1_howManyMasked : GoodIn wsX0_countNumber wsX1_howManyMasked := goodIn_r _ [20, 21, 22, 15, 12, 16, 43, 44, 45, 46, 47, 48, 49, 50, 51] (by decide +kernel) (by decide +kernel)
set_option maxRecDepth 20000 in
theorem gX0_countNumber_X1_howManyMasked_n204 : GoodIn wsX0_countNumber (wsX1_howManyMasked) := ggX0_countNumber_X1_howManyMasked
set_option maxRecDepth 20000 in
theorem ggX0_countNumber_X1_bitsOfInside : GoodIn wsX0_countNumber wsX1_bitsOfInside := goodIn_r _ [25, 21, 26, 27, 28, 18, 29, 30, 15, 12, 16, 43, 44, 45, 46, 47, 48, 49, 50, 51] (by decide +kernel) (by decide +kernel)
set_option maxRecDepth 20000 in
theorem gX0_countNumber_X1_bitsOfInside_n208 : GoodIn wsX0_countNumber (wsX1_bitsOfInside) := ggX0_countNumber_X1_bitsOfInside
set_option maxRecDepth 20000 in
theorem ggX0_countNumber_X5_at : GoodIn wsX0_countNumber wsX5_at := goodIn_r _ [16] (by decide +kernel) (by decide +kernel)
set_option maxRecDepth 20000 in
theorem gX0_countNumber_X5_at_n67 : GoodIn wsX0_countNumber (wsX5_at) := ggX0_countNumber_X5_at
theorem dX0_countNumber_0 : decode cX0_countNumber 0 = .ok (.iload_n 1, 1) := by decide +kernel
theorem dX0_countNumber_1 : decode cX0_countNumber 1 = .ok (.tableswitch 218 0 14 #[75, 80, 88, 106, 118, 136, 141, 159, 164, 182, 187, 192, 197, 202, 210], 75) := by decide +kernel
theorem dX0_countNumber_76 : decode cX0_countNumber 76 = .ok (.aload_n 0, 1) := by decide +kernel
theorem dX0_countNumber_77 : decode cX0_countNumber 77 = .ok (.getfield 115, 3) := by decide +kernel
theorem dX0_countNumber_80 : decode cX0_countNumber 80 = .ok (.ireturn, 1) := by decide +kernel
theorem dX0_countNumber_81 : decode cX0_countNumber 81 = .ok (.aload_n 0, 1) := by decide +kernel
theorem dX0_countNumber_82 : decode cX0_countNumber 82 = .ok (.getfield 12, 3) := by decide +kernel
theorem dX0_countNumber_85 : decode cX0_countNumber 85 = .ok (.getfield 158, 3) := by decide +kernel
theorem dX0_countNumber_88 : decode cX0_countNumber 88 = .ok (.ireturn, 1) := by decide +kernel
theorem dX0_countNumber_89 : decode cX0_countNumber 89 = .ok (.aload_n 0, 1) := by decide +kernel
theorem dX0_countNumber_90 : decode cX0_countNumber 90 = .ok (.getfield 12, 3) := by decide +kernel
theorem dX0_countNumber_93 : decode cX0_countNumber 93 = .ok (.getfield 146, 3) := by decide +kernel
theorem dX0_countNumber_96 : decode cX0_countNumber 96 = .ok (.aload_n 0, 1) := by decide +kernel
theorem dX0_countNumber_97 : decode cX0_countNumber 97 = .ok (.getfield 12, 3) := by decide +kernel
theorem dX0_countNumber_100 : decode cX0_countNumber 100 = .ok (.getfield 158, 3) := by decide +kernel
theorem dX0_countNumber_103 : decode cX0_countNumber 103 = .ok (.invokestatic 161, 3) := by decide +kernel
theorem dX0_countNumber_106 : decode cX0_countNumber 106 = .ok (.ireturn, 1) := by decide +kernel
theorem dX0_countNumber_107 : decode cX0_countNumber 107 = .ok (.aload_n 0, 1) := by decide +kernel
theorem dX0_countNumber_108 : decode cX0_countNumber 108 = .ok (.getfield 21, 3) := by decide +kernel
theorem dX0_countNumber_111 : decode cX0_countNumber 111 = .ok (.getfield 191, 3) := by decide +kernel
theorem dX0_countNumber_114 : decode cX0_countNumber 114 = .ok (.iconst 3, 1) := by decide +kernel
theorem dX0_countNumber_115 : decode cX0_countNumber 115 = .ok (.invokestatic 161, 3) := by decide +kernel
theorem dX0_countNumber_118 : decode cX0_countNumber 118 = .ok (.ireturn, 1) := by decide +kernel
theorem dX0_countNumber_119 : decode cX0_countNumber 119 = .ok (.aload_n 0, 1) := by decide +kernel
theorem dX0_countNumber_120 : decode cX0_countNumber 120 = .ok (.getfield 12, 3) := by decide +kernel
theorem dX0_countNumber_123 : decode cX0_countNumber 123 = .ok (.getfield 71, 3) := by decide +kernel
theorem dX0_countNumber_126 : decode cX0_countNumber 126 = .ok (.aload_n 0, 1) := by decide +kernel
theorem dX0_countNumber_127 : decode cX0_countNumber 127 = .ok (.getfield 12, 3) := by decide +kernel
theorem dX0_countNumber_130 : decode cX0_countNumber 130 = .ok (.getfield 158, 3) := by decide +kernel
theorem dX0_countNumber_133 : decode cX0_countNumber 133 = .ok (.invokestatic 161, 3) := by decide +kernel
theorem dX0_countNumber_136 : decode cX0_countNumber 136 = .ok (.ireturn, 1) := by decide +kernel
theorem dX0_countNumber_137 : decode cX0_countNumber 137 = .ok (.aload_n 0, 1) := by decide +kernel
theorem dX0_countNumber_138 : decode cX0_countNumber 138 = .ok (.getfield 97, 3) := by decide +kernel
theorem dX0_countNumber_141 : decode cX0_countNumber 141 = .ok (.ireturn, 1) := by decide +kernel
theorem dX0_countNumber_142 : decode cX0_countNumber 142 = .ok (.aload_n 0, 1) := by decide +kernel
theorem dX0_countNumber_143 : decode cX0_countNumber 143 = .ok (.getfield 12, 3) := by decide +kernel
theorem dX0_countNumber_146 : decode cX0_countNumber 146 = .ok (.getfield 64, 3) := by decide +kernel
theorem dX0_countNumber_149 : decode cX0_countNumber 149 = .ok (.aload_n 0, 1) := by decide +kernel
theorem dX0_countNumber_150 : decode cX0_countNumber 150 = .ok (.getfield 12, 3) := by decide +kernel
theorem dX0_countNumber_153 : decode cX0_countNumber 153 = .ok (.getfield 158, 3) := by decide +kernel
theorem dX0_countNumber_156 : decode cX0_countNumber 156 = .ok (.invokestatic 161, 3) := by decide +kernel
theorem dX0_countNumber_159 : decode cX0_countNumber 159 = .ok (.ireturn, 1) := by decide +kernel
theorem dX0_countNumber_160 : decode cX0_countNumber 160 = .ok (.aload_n 0, 1) := by decide +kernel
theorem dX0_countNumber_161 : decode cX0_countNumber 161 = .ok (.getfield 43, 3) := by decide +kernel
theorem dX0_countNumber_164 : decode cX0_countNumber 164 = .ok (.ireturn, 1) := by decide +kernel
theorem dX0_countNumber_165 : decode cX0_countNumber 165 = .ok (.aload_n 0, 1) := by decide +kernel
theorem dX0_countNumber_166 : decode cX0_countNumber 166 = .ok (.getfield 12, 3) := by decide +kernel
theorem dX0_countNumber_169 : decode cX0_countNumber 169 = .ok (.getfield 74, 3) := by decide +kernel
theorem dX0_countNumber_172 : decode cX0_countNumber 172 = .ok (.aload_n 0, 1) := by decide +kernel
theorem dX0_countNumber_173 : decode cX0_countNumber 173 = .ok (.getfield 12, 3) := by decide +kernel
theorem dX0_countNumber_176 : decode cX0_countNumber 176 = .ok (.getfield 158, 3) := by decide +kernel
theorem dX0_countNumber_179 : decode cX0_countNumber 179 = .ok (.invokestatic 161, 3) := by decide +kernel
theorem dX0_countNumber_182 : decode cX0_countNumber 182 = .ok (.ireturn, 1) := by decide +kernel
theorem dX0_countNumber_183 : decode cX0_countNumber 183 = .ok (.aload_n 0, 1) := by decide +kernel
theorem dX0_countNumber_184 : decode cX0_countNumber 184 = .ok (.getfield 149, 3) := by decide +kernel
theorem dX0_countNumber_187 : decode cX0_countNumber 187 = .ok (.ireturn, 1) := by decide +kernel
theorem dX0_countNumber_188 : decode cX0_countNumber 188 = .ok (.aload_n 0, 1) := by decide +kernel
theorem dX0_countNumber_189 : decode cX0_countNumber 189 = .ok (.getfield 46, 3) := by decide +kernel
theorem dX0_countNumber_192 : decode cX0_countNumber 192 = .ok (.ireturn, 1) := by decide +kernel
theorem dX0_countNumber_193 : decode cX0_countNumber 193 = .ok (.aload_n 0, 1) := by decide +kernel
theorem dX0_countNumber_194 : decode cX0_countNumber 194 = .ok (.getfield 155, 3) := by decide +kernel
theorem dX0_countNumber_197 : decode cX0_countNumber 197 = .ok (.ireturn, 1) := by decide +kernel
theorem dX0_countNumber_198 : decode cX0_countNumber 198 = .ok (.aload_n 0, 1) := by decide +kernel
theorem dX0_countNumber_199 : decode cX0_countNumber 199 = .ok (.getfield 152, 3) := by decide +kernel
theorem dX0_countNumber_202 : decode cX0_countNumber 202 = .ok (.ireturn, 1) := by decide +kernel
theorem dX0_countNumber_203 : decode cX0_countNumber 203 = .ok (.aload_n 0, 1) := by decide +kernel
theorem dX0_countNumber_204 : decode cX0_countNumber 204 = .ok (.getfield 12, 3) := by decide +kernel
theorem dX0_countNumber_207 : decode cX0_countNumber 207 = .ok (.invokevirtual 204, 3) := by decide +kernel
theorem dX0_countNumber_210 : decode cX0_countNumber 210 = .ok (.ireturn, 1) := by decide +kernel
theorem dX0_countNumber_211 : decode cX0_countNumber 211 = .ok (.aload_n 0, 1) := by decide +kernel
theorem dX0_countNumber_212 : decode cX0_countNumber 212 = .ok (.getfield 12, 3) := by decide +kernel
theorem dX0_countNumber_215 : decode cX0_countNumber 215 = .ok (.invokevirtual 208, 3) := by decide +kernel
theorem dX0_countNumber_218 : decode cX0_countNumber 218 = .ok (.ireturn, 1) := by decide +kernel
theorem dX0_countNumber_219 : decode cX0_countNumber 219 = .ok (.aload_n 0, 1) := by decide +kernel
theorem dX0_countNumber_220 : decode cX0_countNumber 220 = .ok (.getfield 25, 3) := by decide +kernel
theorem dX0_countNumber_223 : decode cX0_countNumber 223 = .ok (.iload_n 1, 1) := by decide +kernel
theorem dX0_countNumber_224 : decode cX0_countNumber 224 = .ok (.bipush 15, 2) := by decide +kernel
theorem dX0_countNumber_226 : decode cX0_countNumber 226 = .ok (.isub, 1) := by decide +kernel
theorem dX0_countNumber_227 : decode cX0_countNumber 227 = .ok (.invokestatic 67, 3) := by decide +kernel
theorem dX0_countNumber_230 : decode cX0_countNumber 230 = .ok (.ireturn, 1) := by decide +kernel
set_option maxRecDepth 20000 in
theorem ggX0_copyState_X1_copyGuests : GoodIn wsX0_copyState wsX1_copyGuests := goodIn_r _ [16, 17, 18, 19, 20, 21, 22, 23, 24, 25, 26, 27, 28, 29, 30, 31, 32, 33, 34, 35, 36, 55, 56, 57, 58, 59, 60, 61, 62, 63] (by decide +kernel) (by decide +kernel)
set_option maxRecDepth 20000 in
theorem gX0_copyState_X1_copyGuests_n211 : GoodIn wsX0_copyState (wsX1_copyGuests) := ggX0_copyState_X1_copyGuests
set_option maxRecDepth 20000 in
theorem ggX0_copyState_X3_copyLines : GoodIn wsX0_copyState wsX3_copyLines := goodIn_r _ [40, 41, 42, 26, 27, 28, 29, 30, 31, 32, 33, 34, 35, 36, 64, 65] (by decide +kernel) (by decide +kernel)
set_option maxRecDepth 20000 in
theorem gX0_copyState_X3_copyLines_n215 : GoodIn wsX0_copyState (wsX3_copyLines) := ggX0_copyState_X3_copyLines
set_option maxRecDepth 20000 in
theorem ggX0_copyState_X5_copyRow : GoodIn wsX0_copyState wsX5_copyRow := goodIn_r _ [28, 29, 30, 31, 32, 33, 34, 35, 36] (by decide +kernel) (by decide +kernel)
set_option maxRecDepth 20000 in
theorem gX0_copyState_X5_copyRow_n39 : GoodIn wsX0_copyState (wsX5_copyRow) := ggX0_copyState_X5_copyRow
theorem dX0_copyState_0 : decode cX0_copyState 0 = .ok (.aload_n 0, 1) := by decide +kernel
theorem dX0_copyState_1 : decode cX0_copyState 1 = .ok (.getfield 12, 3) := by decide +kernel
theorem dX0_copyState_4 : decode cX0_copyState 4 = .ok (.aload_n 1, 1) := by decide +kernel
theorem dX0_copyState_5 : decode cX0_copyState 5 = .ok (.getfield 12, 3) := by decide +kernel
theorem dX0_copyState_8 : decode cX0_copyState 8 = .ok (.invokevirtual 211, 3) := by decide +kernel
theorem dX0_copyState_11 : decode cX0_copyState 11 = .ok (.aload_n 0, 1) := by decide +kernel
theorem dX0_copyState_12 : decode cX0_copyState 12 = .ok (.getfield 21, 3) := by decide +kernel
theorem dX0_copyState_15 : decode cX0_copyState 15 = .ok (.aload_n 1, 1) := by decide +kernel
theorem dX0_copyState_16 : decode cX0_copyState 16 = .ok (.getfield 21, 3) := by decide +kernel
theorem dX0_copyState_19 : decode cX0_copyState 19 = .ok (.invokevirtual 215, 3) := by decide +kernel
theorem dX0_copyState_22 : decode cX0_copyState 22 = .ok (.aload_n 1, 1) := by decide +kernel
theorem dX0_copyState_23 : decode cX0_copyState 23 = .ok (.getfield 25, 3) := by decide +kernel
theorem dX0_copyState_26 : decode cX0_copyState 26 = .ok (.aload_n 0, 1) := by decide +kernel
theorem dX0_copyState_27 : decode cX0_copyState 27 = .ok (.getfield 25, 3) := by decide +kernel
theorem dX0_copyState_30 : decode cX0_copyState 30 = .ok (.invokestatic 39, 3) := by decide +kernel
theorem dX0_copyState_33 : decode cX0_copyState 33 = .ok (.aload_n 0, 1) := by decide +kernel
theorem dX0_copyState_34 : decode cX0_copyState 34 = .ok (.aload_n 1, 1) := by decide +kernel
theorem dX0_copyState_35 : decode cX0_copyState 35 = .ok (.getfield 115, 3) := by decide +kernel
theorem dX0_copyState_38 : decode cX0_copyState 38 = .ok (.putfield 115, 3) := by decide +kernel
theorem dX0_copyState_41 : decode cX0_copyState 41 = .ok (.aload_n 0, 1) := by decide +kernel
theorem dX0_copyState_42 : decode cX0_copyState 42 = .ok (.aload_n 1, 1) := by decide +kernel
theorem dX0_copyState_43 : decode cX0_copyState 43 = .ok (.getfield 97, 3) := by decide +kernel
theorem dX0_copyState_46 : decode cX0_copyState 46 = .ok (.putfield 97, 3) := by decide +kernel
theorem dX0_copyState_49 : decode cX0_copyState 49 = .ok (.aload_n 0, 1) := by decide +kernel
theorem dX0_copyState_50 : decode cX0_copyState 50 = .ok (.aload_n 1, 1) := by decide +kernel
theorem dX0_copyState_51 : decode cX0_copyState 51 = .ok (.getfield 149, 3) := by decide +kernel
theorem dX0_copyState_54 : decode cX0_copyState 54 = .ok (.putfield 149, 3) := by decide +kernel
theorem dX0_copyState_57 : decode cX0_copyState 57 = .ok (.aload_n 0, 1) := by decide +kernel
theorem dX0_copyState_58 : decode cX0_copyState 58 = .ok (.aload_n 1, 1) := by decide +kernel
theorem dX0_copyState_59 : decode cX0_copyState 59 = .ok (.getfield 43, 3) := by decide +kernel
theorem dX0_copyState_62 : decode cX0_copyState 62 = .ok (.putfield 43, 3) := by decide +kernel
theorem dX0_copyState_65 : decode cX0_copyState 65 = .ok (.aload_n 0, 1) := by decide +kernel
theorem dX0_copyState_66 : decode cX0_copyState 66 = .ok (.aload_n 1, 1) := by decide +kernel
theorem dX0_copyState_67 : decode cX0_copyState 67 = .ok (.getfield 46, 3) := by decide +kernel
theorem dX0_copyState_70 : decode cX0_copyState 70 = .ok (.putfield 46, 3) := by decide +kernel
theorem dX0_copyState_73 : decode cX0_copyState 73 = .ok (.aload_n 0, 1) := by decide +kernel
theorem dX0_copyState_74 : decode cX0_copyState 74 = .ok (.aload_n 1, 1) := by decide +kernel
theorem dX0_copyState_75 : decode cX0_copyState 75 = .ok (.getfield 155, 3) := by decide +kernel
theorem dX0_copyState_78 : decode cX0_copyState 78 = .ok (.putfield 155, 3) := by decide +kernel
theorem dX0_copyState_81 : decode cX0_copyState 81 = .ok (.aload_n 0, 1) := by decide +kernel
theorem dX0_copyState_82 : decode cX0_copyState 82 = .ok (.aload_n 1, 1) := by decide +kernel
theorem dX0_copyState_83 : decode cX0_copyState 83 = .ok (.getfield 152, 3) := by decide +kernel
theorem dX0_copyState_86 : decode cX0_copyState 86 = .ok (.putfield 152, 3) := by decide +kernel
theorem dX0_copyState_89 : decode cX0_copyState 89 = .ok (.aload_n 0, 1) := by decide +kernel
theorem dX0_copyState_90 : decode cX0_copyState 90 = .ok (.aload_n 1, 1) := by decide +kernel
theorem dX0_copyState_91 : decode cX0_copyState 91 = .ok (.getfield 29, 3) := by decide +kernel
theorem dX0_copyState_94 : decode cX0_copyState 94 = .ok (.putfield 29, 3) := by decide +kernel
theorem dX0_copyState_97 : decode cX0_copyState 97 = .ok (.aload_n 0, 1) := by decide +kernel
theorem dX0_copyState_98 : decode cX0_copyState 98 = .ok (.aload_n 1, 1) := by decide +kernel
theorem dX0_copyState_99 : decode cX0_copyState 99 = .ok (.getfield 33, 3) := by decide +kernel
theorem dX0_copyState_102 : decode cX0_copyState 102 = .ok (.putfield 33, 3) := by decide +kernel
theorem dX0_copyState_105 : decode cX0_copyState 105 = .ok (.return_, 1) := by decide +kernel
theorem dX1_init_0 : decode cX1_init 0 = .ok (.aload_n 0, 1) := by decide +kernel
theorem dX1_init_1 : decode cX1_init 1 = .ok (.invokespecial 3, 3) := by decide +kernel
theorem dX1_init_4 : decode cX1_init 4 = .ok (.aload_n 0, 1) := by decide +kernel
theorem dX1_init_5 : decode cX1_init 5 = .ok (.bipush 10, 2) := by decide +kernel
theorem dX1_init_7 : decode cX1_init 7 = .ok (.newarray .int, 2) := by decide +kernel
theorem dX1_init_9 : decode cX1_init 9 = .ok (.putfield 9, 3) := by decide +kernel
theorem dX1_init_12 : decode cX1_init 12 = .ok (.aload_n 0, 1) := by decide +kernel
theorem dX1_init_13 : decode cX1_init 13 = .ok (.bipush 10, 2) := by decide +kernel
theorem dX1_init_15 : decode cX1_init 15 = .ok (.newarray .int, 2) := by decide +kernel
theorem dX1_init_17 : decode cX1_init 17 = .ok (.putfield 15, 3) := by decide +kernel
theorem dX1_init_20 : decode cX1_init 20 = .ok (.aload_n 0, 1) := by decide +kernel
theorem dX1_init_21 : decode cX1_init 21 = .ok (.bipush 10, 2) := by decide +kernel
theorem dX1_init_23 : decode cX1_init 23 = .ok (.newarray .int, 2) := by decide +kernel
theorem dX1_init_25 : decode cX1_init 25 = .ok (.putfield 18, 3) := by decide +kernel
theorem dX1_init_28 : decode cX1_init 28 = .ok (.aload_n 0, 1) := by decide +kernel
theorem dX1_init_29 : decode cX1_init 29 = .ok (.bipush 10, 2) := by decide +kernel
theorem dX1_init_31 : decode cX1_init 31 = .ok (.newarray .int, 2) := by decide +kernel
theorem dX1_init_33 : decode cX1_init 33 = .ok (.putfield 21, 3) := by decide +kernel
theorem dX1_init_36 : decode cX1_init 36 = .ok (.aload_n 0, 1) := by decide +kernel
theorem dX1_init_37 : decode cX1_init 37 = .ok (.bipush 10, 2) := by decide +kernel
theorem dX1_init_39 : decode cX1_init 39 = .ok (.newarray .int, 2) := by decide +kernel
theorem dX1_init_41 : decode cX1_init 41 = .ok (.putfield 24, 3) := by decide +kernel
theorem dX1_init_44 : decode cX1_init 44 = .ok (.aload_n 0, 1) := by decide +kernel
theorem dX1_init_45 : decode cX1_init 45 = .ok (.bipush 10, 2) := by decide +kernel
theorem dX1_init_47 : decode cX1_init 47 = .ok (.newarray .int, 2) := by decide +kernel
theorem dX1_init_49 : decode cX1_init 49 = .ok (.putfield 27, 3) := by decide +kernel
theorem dX1_init_52 : decode cX1_init 52 = .ok (.aload_n 0, 1) := by decide +kernel
theorem dX1_init_53 : decode cX1_init 53 = .ok (.bipush 10, 2) := by decide +kernel
theorem dX1_init_55 : decode cX1_init 55 = .ok (.newarray .int, 2) := by decide +kernel
theorem dX1_init_57 : decode cX1_init 57 = .ok (.putfield 30, 3) := by decide +kernel
theorem dX1_init_60 : decode cX1_init 60 = .ok (.aload_n 0, 1) := by decide +kernel
theorem dX1_init_61 : decode cX1_init 61 = .ok (.bipush 10, 2) := by decide +kernel
theorem dX1_init_63 : decode cX1_init 63 = .ok (.newarray .int, 2) := by decide +kernel
theorem dX1_init_65 : decode cX1_init 65 = .ok (.putfield 33, 3) := by decide +kernel
theorem dX1_init_68 : decode cX1_init 68 = .ok (.return_, 1) := by decide +kernel
theorem dX1_has_0 : decode cX1_has 0 = .ok (.iload_n 1, 1) := by decide +kernel
theorem dX1_has_1 : decode cX1_has 1 = .ok (.ifCond .lt 15, 3) := by decide +kernel
theorem dX1_has_4 : decode cX1_has 4 = .ok (.iload_n 1, 1) := by decide +kernel
theorem dX1_has_5 : decode cX1_has 5 = .ok (.aload_n 0, 1) := by decide +kernel
theorem dX1_has_6 : decode cX1_has 6 = .ok (.getfield 36, 3) := by decide +kernel
theorem dX1_has_9 : decode cX1_has 9 = .ok (.if_icmp .ge 7, 3) := by decide +kernel
theorem dX1_has_12 : decode cX1_has 12 = .ok (.iconst 1, 1) := by decide +kernel
theorem dX1_has_13 : decode cX1_has 13 = .ok (.goto 4, 3) := by decide +kernel
theorem dX1_has_16 : decode cX1_has 16 = .ok (.iconst 0, 1) := by decide +kernel
theorem dX1_has_17 : decode cX1_has 17 = .ok (.ireturn, 1) := by decide +kernel
set_option maxRecDepth 20000 in
theorem ggX1_takeIn_X5_put : GoodIn wsX1_takeIn wsX5_put := goodIn_r _ [12] (by decide +kernel) (by decide +kernel)
set_option maxRecDepth 20000 in
theorem gX1_takeIn_X5_put_n40 : GoodIn wsX1_takeIn (wsX5_put) := ggX1_takeIn_X5_put
theorem dX1_takeIn_0 : decode cX1_takeIn 0 = .ok (.aload_n 0, 1) := by decide +kernel
theorem dX1_takeIn_1 : decode cX1_takeIn 1 = .ok (.getfield 36, 3) := by decide +kernel
theorem dX1_takeIn_4 : decode cX1_takeIn 4 = .ok (.istore 4, 2) := by decide +kernel
theorem dX1_takeIn_6 : decode cX1_takeIn 6 = .ok (.aload_n 0, 1) := by decide +kernel
theorem dX1_takeIn_7 : decode cX1_takeIn 7 = .ok (.getfield 9, 3) := by decide +kernel
theorem dX1_takeIn_10 : decode cX1_takeIn 10 = .ok (.iload 4, 2) := by decide +kernel
theorem dX1_takeIn_12 : decode cX1_takeIn 12 = .ok (.iload_n 1, 1) := by decide +kernel
theorem dX1_takeIn_13 : decode cX1_takeIn 13 = .ok (.invokestatic 40, 3) := by decide +kernel
theorem dX1_takeIn_16 : decode cX1_takeIn 16 = .ok (.aload_n 0, 1) := by decide +kernel
theorem dX1_takeIn_17 : decode cX1_takeIn 17 = .ok (.getfield 15, 3) := by decide +kernel
theorem dX1_takeIn_20 : decode cX1_takeIn 20 = .ok (.iload 4, 2) := by decide +kernel
theorem dX1_takeIn_22 : decode cX1_takeIn 22 = .ok (.iload_n 3, 1) := by decide +kernel
theorem dX1_takeIn_23 : decode cX1_takeIn 23 = .ok (.invokestatic 40, 3) := by decide +kernel
theorem dX1_takeIn_26 : decode cX1_takeIn 26 = .ok (.aload_n 0, 1) := by decide +kernel
theorem dX1_takeIn_27 : decode cX1_takeIn 27 = .ok (.getfield 18, 3) := by decide +kernel
theorem dX1_takeIn_30 : decode cX1_takeIn 30 = .ok (.iload 4, 2) := by decide +kernel
theorem dX1_takeIn_32 : decode cX1_takeIn 32 = .ok (.iconst 0, 1) := by decide +kernel
theorem dX1_takeIn_33 : decode cX1_takeIn 33 = .ok (.invokestatic 40, 3) := by decide +kernel
theorem dX1_takeIn_36 : decode cX1_takeIn 36 = .ok (.aload_n 0, 1) := by decide +kernel
theorem dX1_takeIn_37 : decode cX1_takeIn 37 = .ok (.getfield 21, 3) := by decide +kernel
theorem dX1_takeIn_40 : decode cX1_takeIn 40 = .ok (.iload 4, 2) := by decide +kernel
theorem dX1_takeIn_42 : decode cX1_takeIn 42 = .ok (.iload_n 2, 1) := by decide +kernel
theorem dX1_takeIn_43 : decode cX1_takeIn 43 = .ok (.invokestatic 40, 3) := by decide +kernel
theorem dX1_takeIn_46 : decode cX1_takeIn 46 = .ok (.aload_n 0, 1) := by decide +kernel
theorem dX1_takeIn_47 : decode cX1_takeIn 47 = .ok (.getfield 24, 3) := by decide +kernel
theorem dX1_takeIn_50 : decode cX1_takeIn 50 = .ok (.iload 4, 2) := by decide +kernel
theorem dX1_takeIn_52 : decode cX1_takeIn 52 = .ok (.iconst (-1), 1) := by decide +kernel
theorem dX1_takeIn_53 : decode cX1_takeIn 53 = .ok (.invokestatic 40, 3) := by decide +kernel
theorem dX1_takeIn_56 : decode cX1_takeIn 56 = .ok (.aload_n 0, 1) := by decide +kernel
theorem dX1_takeIn_57 : decode cX1_takeIn 57 = .ok (.getfield 27, 3) := by decide +kernel
theorem dX1_takeIn_60 : decode cX1_takeIn 60 = .ok (.iload 4, 2) := by decide +kernel
theorem dX1_takeIn_62 : decode cX1_takeIn 62 = .ok (.iconst (-1), 1) := by decide +kernel
theorem dX1_takeIn_63 : decode cX1_takeIn 63 = .ok (.invokestatic 40, 3) := by decide +kernel
theorem dX1_takeIn_66 : decode cX1_takeIn 66 = .ok (.aload_n 0, 1) := by decide +kernel
theorem dX1_takeIn_67 : decode cX1_takeIn 67 = .ok (.getfield 30, 3) := by decide +kernel
theorem dX1_takeIn_70 : decode cX1_takeIn 70 = .ok (.iload 4, 2) := by decide +kernel
theorem dX1_takeIn_72 : decode cX1_takeIn 72 = .ok (.iconst 0, 1) := by decide +kernel
theorem dX1_takeIn_73 : decode cX1_takeIn 73 = .ok (.invokestatic 40, 3) := by decide +kernel
theorem dX1_takeIn_76 : decode cX1_takeIn 76 = .ok (.aload_n 0, 1) := by decide +kernel
theorem dX1_takeIn_77 : decode cX1_takeIn 77 = .ok (.getfield 33, 3) := by decide +kernel
theorem dX1_takeIn_80 : decode cX1_takeIn 80 = .ok (.iload 4, 2) := by decide +kernel
theorem dX1_takeIn_82 : decode cX1_takeIn 82 = .ok (.iconst 0, 1) := by decide +kernel
theorem dX1_takeIn_83 : decode cX1_takeIn 83 = .ok (.invokestatic 40, 3) := by decide +kernel
theorem dX1_takeIn_86 : decode cX1_takeIn 86 = .ok (.aload_n 0, 1) := by decide +kernel
theorem dX1_takeIn_87 : decode cX1_takeIn 87 = .ok (.dup, 1) := by decide +kernel
theorem dX1_takeIn_88 : decode cX1_takeIn 88 = .ok (.getfield 36, 3) := by decide +kernel
theorem dX1_takeIn_91 : decode cX1_takeIn 91 = .ok (.iconst 1, 1) := by decide +kernel
theorem dX1_takeIn_92 : decode cX1_takeIn 92 = .ok (.iadd, 1) := by decide +kernel
theorem dX1_takeIn_93 : decode cX1_takeIn 93 = .ok (.putfield 36, 3) := by decide +kernel
theorem dX1_takeIn_96 : decode cX1_takeIn 96 = .ok (.iload 4, 2) := by decide +kernel
theorem dX1_takeIn_98 : decode cX1_takeIn 98 = .ok (.ireturn, 1) := by decide +kernel
set_option maxRecDepth 20000 in
theorem ggX1_takeOut_X1_closeGap : GoodIn wsX1_takeOut wsX1_closeGap := goodIn_r _ [14, 9, 15, 16, 17, 18, 19, 23, 24, 25, 26, 27, 28, 29, 30, 31] (by decide +kernel) (by decide +kernel)
set_option maxRecDepth 20000 in
theorem gX1_takeOut_X1_closeGap : GoodIn wsX1_takeOut (wsV RX1 44 RX1 yX1_closeGap wsX1_closeGap) := goodIn_app (goodIn_of _ (by decide +kernel)) ggX1_takeOut_X1_closeGap
set_option maxRecDepth 20000 in
theorem ggX1_takeOut_X5_at : GoodIn wsX1_takeOut wsX5_at := goodIn_r _ [17] (by decide +kernel) (by decide +kernel)
set_option maxRecDepth 20000 in
theorem gX1_takeOut_X5_at_n48 : GoodIn wsX1_takeOut (wsX5_at) := ggX1_takeOut_X5_at
set_option maxRecDepth 20000 in
theorem ggX1_takeOut_X1_numberWithout : GoodIn wsX1_takeOut wsX1_numberWithout := goodIn_r _ [22] (by decide +kernel) (by decide +kernel)
set_option maxRecDepth 20000 in
theorem gX1_takeOut_X1_numberWithout : GoodIn wsX1_takeOut (va_wsS RX1 52 yX1_numberWithout wsX1_numberWithout) := goodIn_app (goodIn_of _ (by decide +kernel)) ggX1_takeOut_X1_numberWithout
set_option maxRecDepth 20000 in
theorem ggX1_takeOut_X5_put : GoodIn wsX1_takeOut wsX5_put := goodIn_r _ [19] (by decide +kernel) (by decide +kernel)
set_option maxRecDepth 20000 in
theorem gX1_takeOut_X5_put_n40 : GoodIn wsX1_takeOut (wsX5_put) := ggX1_takeOut_X5_put
theorem dX1_takeOut_0 : decode cX1_takeOut 0 = .ok (.aload_n 0, 1) := by decide +kernel
theorem dX1_takeOut_1 : decode cX1_takeOut 1 = .ok (.aload_n 0, 1) := by decide +kernel
theorem dX1_takeOut_2 : decode cX1_takeOut 2 = .ok (.getfield 9, 3) := by decide +kernel
theorem dX1_takeOut_5 : decode cX1_takeOut 5 = .ok (.iload_n 1, 1) := by decide +kernel
theorem dX1_takeOut_6 : decode cX1_takeOut 6 = .ok (.invokevirtual 44, 3) := by decide +kernel
theorem dX1_takeOut_9 : decode cX1_takeOut 9 = .ok (.aload_n 0, 1) := by decide +kernel
theorem dX1_takeOut_10 : decode cX1_takeOut 10 = .ok (.aload_n 0, 1) := by decide +kernel
theorem dX1_takeOut_11 : decode cX1_takeOut 11 = .ok (.getfield 15, 3) := by decide +kernel
theorem dX1_takeOut_14 : decode cX1_takeOut 14 = .ok (.iload_n 1, 1) := by decide +kernel
theorem dX1_takeOut_15 : decode cX1_takeOut 15 = .ok (.invokevirtual 44, 3) := by decide +kernel
theorem dX1_takeOut_18 : decode cX1_takeOut 18 = .ok (.aload_n 0, 1) := by decide +kernel
theorem dX1_takeOut_19 : decode cX1_takeOut 19 = .ok (.aload_n 0, 1) := by decide +kernel
theorem dX1_takeOut_20 : decode cX1_takeOut 20 = .ok (.getfield 18, 3) := by decide +kernel
theorem dX1_takeOut_23 : decode cX1_takeOut 23 = .ok (.iload_n 1, 1) := by decide +kernel
theorem dX1_takeOut_24 : decode cX1_takeOut 24 = .ok (.invokevirtual 44, 3) := by decide +kernel
theorem dX1_takeOut_27 : decode cX1_takeOut 27 = .ok (.aload_n 0, 1) := by decide +kernel
theorem dX1_takeOut_28 : decode cX1_takeOut 28 = .ok (.aload_n 0, 1) := by decide +kernel
theorem dX1_takeOut_29 : decode cX1_takeOut 29 = .ok (.getfield 21, 3) := by decide +kernel
theorem dX1_takeOut_32 : decode cX1_takeOut 32 = .ok (.iload_n 1, 1) := by decide +kernel
theorem dX1_takeOut_33 : decode cX1_takeOut 33 = .ok (.invokevirtual 44, 3) := by decide +kernel
theorem dX1_takeOut_36 : decode cX1_takeOut 36 = .ok (.aload_n 0, 1) := by decide +kernel
theorem dX1_takeOut_37 : decode cX1_takeOut 37 = .ok (.aload_n 0, 1) := by decide +kernel
theorem dX1_takeOut_38 : decode cX1_takeOut 38 = .ok (.getfield 24, 3) := by decide +kernel
theorem dX1_takeOut_41 : decode cX1_takeOut 41 = .ok (.iload_n 1, 1) := by decide +kernel
theorem dX1_takeOut_42 : decode cX1_takeOut 42 = .ok (.invokevirtual 44, 3) := by decide +kernel
theorem dX1_takeOut_45 : decode cX1_takeOut 45 = .ok (.aload_n 0, 1) := by decide +kernel
theorem dX1_takeOut_46 : decode cX1_takeOut 46 = .ok (.aload_n 0, 1) := by decide +kernel
theorem dX1_takeOut_47 : decode cX1_takeOut 47 = .ok (.getfield 27, 3) := by decide +kernel
theorem dX1_takeOut_50 : decode cX1_takeOut 50 = .ok (.iload_n 1, 1) := by decide +kernel
theorem dX1_takeOut_51 : decode cX1_takeOut 51 = .ok (.invokevirtual 44, 3) := by decide +kernel
theorem dX1_takeOut_54 : decode cX1_takeOut 54 = .ok (.aload_n 0, 1) := by decide +kernel
theorem dX1_takeOut_55 : decode cX1_takeOut 55 = .ok (.aload_n 0, 1) := by decide +kernel
theorem dX1_takeOut_56 : decode cX1_takeOut 56 = .ok (.getfield 30, 3) := by decide +kernel
theorem dX1_takeOut_59 : decode cX1_takeOut 59 = .ok (.iload_n 1, 1) := by decide +kernel
theorem dX1_takeOut_60 : decode cX1_takeOut 60 = .ok (.invokevirtual 44, 3) := by decide +kernel
theorem dX1_takeOut_63 : decode cX1_takeOut 63 = .ok (.aload_n 0, 1) := by decide +kernel
theorem dX1_takeOut_64 : decode cX1_takeOut 64 = .ok (.aload_n 0, 1) := by decide +kernel
theorem dX1_takeOut_65 : decode cX1_takeOut 65 = .ok (.getfield 33, 3) := by decide +kernel
theorem dX1_takeOut_68 : decode cX1_takeOut 68 = .ok (.iload_n 1, 1) := by decide +kernel
theorem dX1_takeOut_69 : decode cX1_takeOut 69 = .ok (.invokevirtual 44, 3) := by decide +kernel
theorem dX1_takeOut_72 : decode cX1_takeOut 72 = .ok (.aload_n 0, 1) := by decide +kernel
theorem dX1_takeOut_73 : decode cX1_takeOut 73 = .ok (.dup, 1) := by decide +kernel
theorem dX1_takeOut_74 : decode cX1_takeOut 74 = .ok (.getfield 36, 3) := by decide +kernel
theorem dX1_takeOut_77 : decode cX1_takeOut 77 = .ok (.iconst 1, 1) := by decide +kernel
theorem dX1_takeOut_78 : decode cX1_takeOut 78 = .ok (.isub, 1) := by decide +kernel
theorem dX1_takeOut_79 : decode cX1_takeOut 79 = .ok (.putfield 36, 3) := by decide +kernel
theorem dX1_takeOut_82 : decode cX1_takeOut 82 = .ok (.iconst 0, 1) := by decide +kernel
theorem dX1_takeOut_83 : decode cX1_takeOut 83 = .ok (.istore_n 2, 1) := by decide +kernel
theorem dX1_takeOut_84 : decode cX1_takeOut 84 = .ok (.iload_n 2, 1) := by decide +kernel
theorem dX1_takeOut_85 : decode cX1_takeOut 85 = .ok (.aload_n 0, 1) := by decide +kernel
theorem dX1_takeOut_86 : decode cX1_takeOut 86 = .ok (.getfield 36, 3) := by decide +kernel
theorem dX1_takeOut_89 : decode cX1_takeOut 89 = .ok (.if_icmp .ge 49, 3) := by decide +kernel
theorem dX1_takeOut_92 : decode cX1_takeOut 92 = .ok (.aload_n 0, 1) := by decide +kernel
theorem dX1_takeOut_93 : decode cX1_takeOut 93 = .ok (.getfield 24, 3) := by decide +kernel
theorem dX1_takeOut_96 : decode cX1_takeOut 96 = .ok (.iload_n 2, 1) := by decide +kernel
theorem dX1_takeOut_97 : decode cX1_takeOut 97 = .ok (.iload_n 1, 1) := by decide +kernel
theorem dX1_takeOut_98 : decode cX1_takeOut 98 = .ok (.aload_n 0, 1) := by decide +kernel
theorem dX1_takeOut_99 : decode cX1_takeOut 99 = .ok (.getfield 24, 3) := by decide +kernel
theorem dX1_takeOut_102 : decode cX1_takeOut 102 = .ok (.iload_n 2, 1) := by decide +kernel
theorem dX1_takeOut_103 : decode cX1_takeOut 103 = .ok (.invokestatic 48, 3) := by decide +kernel
theorem dX1_takeOut_106 : decode cX1_takeOut 106 = .ok (.invokestatic 52, 3) := by decide +kernel
theorem dX1_takeOut_109 : decode cX1_takeOut 109 = .ok (.invokestatic 40, 3) := by decide +kernel
theorem dX1_takeOut_112 : decode cX1_takeOut 112 = .ok (.aload_n 0, 1) := by decide +kernel
theorem dX1_takeOut_113 : decode cX1_takeOut 113 = .ok (.getfield 27, 3) := by decide +kernel
theorem dX1_takeOut_116 : decode cX1_takeOut 116 = .ok (.iload_n 2, 1) := by decide +kernel
theorem dX1_takeOut_117 : decode cX1_takeOut 117 = .ok (.iload_n 1, 1) := by decide +kernel
theorem dX1_takeOut_118 : decode cX1_takeOut 118 = .ok (.aload_n 0, 1) := by decide +kernel
theorem dX1_takeOut_119 : decode cX1_takeOut 119 = .ok (.getfield 27, 3) := by decide +kernel
theorem dX1_takeOut_122 : decode cX1_takeOut 122 = .ok (.iload_n 2, 1) := by decide +kernel
theorem dX1_takeOut_123 : decode cX1_takeOut 123 = .ok (.invokestatic 48, 3) := by decide +kernel
theorem dX1_takeOut_126 : decode cX1_takeOut 126 = .ok (.invokestatic 52, 3) := by decide +kernel
theorem dX1_takeOut_129 : decode cX1_takeOut 129 = .ok (.invokestatic 40, 3) := by decide +kernel
theorem dX1_takeOut_132 : decode cX1_takeOut 132 = .ok (.iinc 2 1, 3) := by decide +kernel
theorem dX1_takeOut_135 : decode cX1_takeOut 135 = .ok (.goto (-51), 3) := by decide +kernel
theorem dX1_takeOut_138 : decode cX1_takeOut 138 = .ok (.return_, 1) := by decide +kernel
set_option maxRecDepth 20000 in
theorem ggX1_closeGap_X5_at : GoodIn wsX1_closeGap wsX5_at := goodIn_r _ [4] (by decide +kernel) (by decide +kernel)
set_option maxRecDepth 20000 in
theorem gX1_closeGap_X5_at_n48 : GoodIn wsX1_closeGap (wsX5_at) := ggX1_closeGap_X5_at
set_option maxRecDepth 20000 in
theorem ggX1_closeGap_X5_put : GoodIn wsX1_closeGap wsX5_put := goodIn_r _ [6] (by decide +kernel) (by decide +kernel)
set_option maxRecDepth 20000 in
theorem gX1_closeGap_X5_put_n40 : GoodIn wsX1_closeGap (wsX5_put) := ggX1_closeGap_X5_put
theorem dX1_closeGap_0 : decode cX1_closeGap 0 = .ok (.iload_n 2, 1) := by decide +kernel
theorem dX1_closeGap_1 : decode cX1_closeGap 1 = .ok (.istore_n 3, 1) := by decide +kernel
theorem dX1_closeGap_2 : decode cX1_closeGap 2 = .ok (.iload_n 3, 1) := by decide +kernel
theorem dX1_closeGap_3 : decode cX1_closeGap 3 = .ok (.iconst 1, 1) := by decide +kernel
theorem dX1_closeGap_4 : decode cX1_closeGap 4 = .ok (.iadd, 1) := by decide +kernel
theorem dX1_closeGap_5 : decode cX1_closeGap 5 = .ok (.aload_n 0, 1) := by decide +kernel
theorem dX1_closeGap_6 : decode cX1_closeGap 6 = .ok (.getfield 36, 3) := by decide +kernel
theorem dX1_closeGap_9 : decode cX1_closeGap 9 = .ok (.if_icmp .ge 21, 3) := by decide +kernel
theorem dX1_closeGap_12 : decode cX1_closeGap 12 = .ok (.aload_n 1, 1) := by decide +kernel
theorem dX1_closeGap_13 : decode cX1_closeGap 13 = .ok (.iload_n 3, 1) := by decide +kernel
theorem dX1_closeGap_14 : decode cX1_closeGap 14 = .ok (.aload_n 1, 1) := by decide +kernel
theorem dX1_closeGap_15 : decode cX1_closeGap 15 = .ok (.iload_n 3, 1) := by decide +kernel
theorem dX1_closeGap_16 : decode cX1_closeGap 16 = .ok (.iconst 1, 1) := by decide +kernel
theorem dX1_closeGap_17 : decode cX1_closeGap 17 = .ok (.iadd, 1) := by decide +kernel
theorem dX1_closeGap_18 : decode cX1_closeGap 18 = .ok (.invokestatic 48, 3) := by decide +kernel
theorem dX1_closeGap_21 : decode cX1_closeGap 21 = .ok (.invokestatic 40, 3) := by decide +kernel
theorem dX1_closeGap_24 : decode cX1_closeGap 24 = .ok (.iinc 3 1, 3) := by decide +kernel
theorem dX1_closeGap_27 : decode cX1_closeGap 27 = .ok (.goto (-25), 3) := by decide +kernel
theorem dX1_closeGap_30 : decode cX1_closeGap 30 = .ok (.return_, 1) := by decide +kernel
theorem dX1_numberWithout_0 : decode cX1_numberWithout 0 = .ok (.iload_n 1, 1) := by decide +kernel
theorem dX1_numberWithout_1 : decode cX1_numberWithout 1 = .ok (.iload_n 0, 1) := by decide +kernel
theorem dX1_numberWithout_2 : decode cX1_numberWithout 2 = .ok (.if_icmp .le 9, 3) := by decide +kernel
theorem dX1_numberWithout_5 : decode cX1_numberWithout 5 = .ok (.iload_n 1, 1) := by decide +kernel
theorem dX1_numberWithout_6 : decode cX1_numberWithout 6 = .ok (.iconst 1, 1) := by decide +kernel
theorem dX1_numberWithout_7 : decode cX1_numberWithout 7 = .ok (.isub, 1) := by decide +kernel
theorem dX1_numberWithout_8 : decode cX1_numberWithout 8 = .ok (.goto 4, 3) := by decide +kernel
theorem dX1_numberWithout_11 : decode cX1_numberWithout 11 = .ok (.iload_n 1, 1) := by decide +kernel
theorem dX1_numberWithout_12 : decode cX1_numberWithout 12 = .ok (.ireturn, 1) := by decide +kernel
set_option maxRecDepth 20000 in
theorem ggX1_wornCoat_X5_at : GoodIn wsX1_wornCoat wsX5_at := goodIn_r _ [5] (by decide +kernel) (by decide +kernel)
set_option maxRecDepth 20000 in
theorem gX1_wornCoat_X5_at_n48 : GoodIn wsX1_wornCoat (wsX5_at) := ggX1_wornCoat_X5_at
theorem dX1_wornCoat_0 : decode cX1_wornCoat 0 = .ok (.aload_n 0, 1) := by decide +kernel
theorem dX1_wornCoat_1 : decode cX1_wornCoat 1 = .ok (.getfield 24, 3) := by decide +kernel
theorem dX1_wornCoat_4 : decode cX1_wornCoat 4 = .ok (.iload_n 1, 1) := by decide +kernel
theorem dX1_wornCoat_5 : decode cX1_wornCoat 5 = .ok (.invokestatic 48, 3) := by decide +kernel
theorem dX1_wornCoat_8 : decode cX1_wornCoat 8 = .ok (.istore_n 2, 1) := by decide +kernel
theorem dX1_wornCoat_9 : decode cX1_wornCoat 9 = .ok (.iload_n 2, 1) := by decide +kernel
theorem dX1_wornCoat_10 : decode cX1_wornCoat 10 = .ok (.iconst (-1), 1) := by decide +kernel
theorem dX1_wornCoat_11 : decode cX1_wornCoat 11 = .ok (.if_icmp .eq 5, 3) := by decide +kernel
theorem dX1_wornCoat_14 : decode cX1_wornCoat 14 = .ok (.iload_n 2, 1) := by decide +kernel
theorem dX1_wornCoat_15 : decode cX1_wornCoat 15 = .ok (.ireturn, 1) := by decide +kernel
theorem dX1_wornCoat_16 : decode cX1_wornCoat 16 = .ok (.aload_n 0, 1) := by decide +kernel
theorem dX1_wornCoat_17 : decode cX1_wornCoat 17 = .ok (.getfield 27, 3) := by decide +kernel
theorem dX1_wornCoat_20 : decode cX1_wornCoat 20 = .ok (.iload_n 1, 1) := by decide +kernel
theorem dX1_wornCoat_21 : decode cX1_wornCoat 21 = .ok (.invokestatic 48, 3) := by decide +kernel
theorem dX1_wornCoat_24 : decode cX1_wornCoat 24 = .ok (.iconst (-1), 1) := by decide +kernel
theorem dX1_wornCoat_25 : decode cX1_wornCoat 25 = .ok (.if_icmp .ne 7, 3) := by decide +kernel
theorem dX1_wornCoat_28 : decode cX1_wornCoat 28 = .ok (.iload_n 1, 1) := by decide +kernel
theorem dX1_wornCoat_29 : decode cX1_wornCoat 29 = .ok (.goto 4, 3) := by decide +kernel
theorem dX1_wornCoat_32 : decode cX1_wornCoat 32 = .ok (.iconst (-1), 1) := by decide +kernel
theorem dX1_wornCoat_33 : decode cX1_wornCoat 33 = .ok (.ireturn, 1) := by decide +kernel
set_option maxRecDepth 20000 in
theorem ggX1_wornLace_X1_wornCoat : GoodIn wsX1_wornLace wsX1_wornCoat := goodIn_r _ [6, 7, 8, 9, 10, 11, 12, 13, 14, 15, 16, 17, 18, 19, 20] (by decide +kernel) (by decide +kernel)
set_option maxRecDepth 20000 in
theorem gX1_wornLace_X1_wornCoat : GoodIn wsX1_wornLace (wsV RX1 56 RX1 yX1_wornCoat wsX1_wornCoat) := goodIn_app (goodIn_of _ (by decide +kernel)) ggX1_wornLace_X1_wornCoat
set_option maxRecDepth 20000 in
theorem ggX1_wornLace_X5_at : GoodIn wsX1_wornLace wsX5_at := goodIn_r _ [11] (by decide +kernel) (by decide +kernel)
set_option maxRecDepth 20000 in
theorem gX1_wornLace_X5_at_n48 : GoodIn wsX1_wornLace (wsX5_at) := ggX1_wornLace_X5_at
theorem dX1_wornLace_0 : decode cX1_wornLace 0 = .ok (.aload_n 0, 1) := by decide +kernel
theorem dX1_wornLace_1 : decode cX1_wornLace 1 = .ok (.iload_n 1, 1) := by decide +kernel
theorem dX1_wornLace_2 : decode cX1_wornLace 2 = .ok (.invokevirtual 56, 3) := by decide +kernel
theorem dX1_wornLace_5 : decode cX1_wornLace 5 = .ok (.istore_n 2, 1) := by decide +kernel
theorem dX1_wornLace_6 : decode cX1_wornLace 6 = .ok (.iload_n 2, 1) := by decide +kernel
theorem dX1_wornLace_7 : decode cX1_wornLace 7 = .ok (.iconst (-1), 1) := by decide +kernel
theorem dX1_wornLace_8 : decode cX1_wornLace 8 = .ok (.if_icmp .ne 7, 3) := by decide +kernel
theorem dX1_wornLace_11 : decode cX1_wornLace 11 = .ok (.iconst 0, 1) := by decide +kernel
theorem dX1_wornLace_12 : decode cX1_wornLace 12 = .ok (.goto 11, 3) := by decide +kernel
theorem dX1_wornLace_15 : decode cX1_wornLace 15 = .ok (.aload_n 0, 1) := by decide +kernel
theorem dX1_wornLace_16 : decode cX1_wornLace 16 = .ok (.getfield 21, 3) := by decide +kernel
theorem dX1_wornLace_19 : decode cX1_wornLace 19 = .ok (.iload_n 2, 1) := by decide +kernel
theorem dX1_wornLace_20 : decode cX1_wornLace 20 = .ok (.invokestatic 48, 3) := by decide +kernel
theorem dX1_wornLace_23 : decode cX1_wornLace 23 = .ok (.ireturn, 1) := by decide +kernel
set_option maxRecDepth 20000 in
theorem ggX1_isIn_X5_at : GoodIn wsX1_isIn wsX5_at := goodIn_r _ [4] (by decide +kernel) (by decide +kernel)
set_option maxRecDepth 20000 in
theorem gX1_isIn_X5_at_n48 : GoodIn wsX1_isIn (wsX5_at) := ggX1_isIn_X5_at
theorem dX1_isIn_0 : decode cX1_isIn 0 = .ok (.aload_n 0, 1) := by decide +kernel
theorem dX1_isIn_1 : decode cX1_isIn 1 = .ok (.getfield 33, 3) := by decide +kernel
theorem dX1_isIn_4 : decode cX1_isIn 4 = .ok (.iload_n 1, 1) := by decide +kernel
theorem dX1_isIn_5 : decode cX1_isIn 5 = .ok (.invokestatic 48, 3) := by decide +kernel
theorem dX1_isIn_8 : decode cX1_isIn 8 = .ok (.ifCond .eq 7, 3) := by decide +kernel
theorem dX1_isIn_11 : decode cX1_isIn 11 = .ok (.iconst 1, 1) := by decide +kernel
theorem dX1_isIn_12 : decode cX1_isIn 12 = .ok (.goto 4, 3) := by decide +kernel
theorem dX1_isIn_15 : decode cX1_isIn 15 = .ok (.iconst 0, 1) := by decide +kernel
theorem dX1_isIn_16 : decode cX1_isIn 16 = .ok (.ireturn, 1) := by decide +kernel
set_option maxRecDepth 20000 in
theorem ggX1_reasonNoLoan_X1_wornCoat : GoodIn wsX1_reasonNoLoan wsX1_wornCoat := goodIn_r _ [6, 1, 7, 8, 9, 10, 16, 17, 18, 19, 20, 21, 22, 23, 24] (by decide +kernel) (by decide +kernel)
set_option maxRecDepth 20000 in
theorem gX1_reasonNoLoan_X1_wornCoat : GoodIn wsX1_reasonNoLoan (wsV RX1 56 RX1 yX1_wornCoat wsX1_wornCoat) := goodIn_app (goodIn_of _ (by decide +kernel)) ggX1_reasonNoLoan_X1_wornCoat
set_option maxRecDepth 20000 in
theorem ggX1_reasonNoLoan_X5_at : GoodIn wsX1_reasonNoLoan wsX5_at := goodIn_r _ [10] (by decide +kernel) (by decide +kernel)
set_option maxRecDepth 20000 in
theorem gX1_reasonNoLoan_X5_at_n48 : GoodIn wsX1_reasonNoLoan (wsX5_at) := ggX1_reasonNoLoan_X5_at
set_option maxRecDepth 20000 in
theorem ggX1_reasonNoLoan_X1_isIn : GoodIn wsX1_reasonNoLoan wsX1_isIn := goodIn_r _ [14, 15, 8, 9, 10, 16, 17, 18, 19, 20, 21, 22, 23, 24] (by decide +kernel) (by decide +kernel)
set_option maxRecDepth 20000 in
theorem gX1_reasonNoLoan_X1_isIn : GoodIn wsX1_reasonNoLoan (wsV RX1 60 RX1 yX1_isIn wsX1_isIn) := goodIn_app (goodIn_of _ (by decide +kernel)) ggX1_reasonNoLoan_X1_isIn
theorem dX1_reasonNoLoan_0 : decode cX1_reasonNoLoan 0 = .ok (.iload_n 1, 1) := by decide +kernel
theorem dX1_reasonNoLoan_1 : decode cX1_reasonNoLoan 1 = .ok (.iload_n 2, 1) := by decide +kernel
theorem dX1_reasonNoLoan_2 : decode cX1_reasonNoLoan 2 = .ok (.if_icmp .ne 5, 3) := by decide +kernel
theorem dX1_reasonNoLoan_5 : decode cX1_reasonNoLoan 5 = .ok (.iconst 1, 1) := by decide +kernel
theorem dX1_reasonNoLoan_6 : decode cX1_reasonNoLoan 6 = .ok (.ireturn, 1) := by decide +kernel
theorem dX1_reasonNoLoan_7 : decode cX1_reasonNoLoan 7 = .ok (.aload_n 0, 1) := by decide +kernel
theorem dX1_reasonNoLoan_8 : decode cX1_reasonNoLoan 8 = .ok (.iload_n 1, 1) := by decide +kernel
theorem dX1_reasonNoLoan_9 : decode cX1_reasonNoLoan 9 = .ok (.invokevirtual 56, 3) := by decide +kernel
theorem dX1_reasonNoLoan_12 : decode cX1_reasonNoLoan 12 = .ok (.iload_n 1, 1) := by decide +kernel
theorem dX1_reasonNoLoan_13 : decode cX1_reasonNoLoan 13 = .ok (.if_icmp .eq 5, 3) := by decide +kernel
theorem dX1_reasonNoLoan_16 : decode cX1_reasonNoLoan 16 = .ok (.iconst 2, 1) := by decide +kernel
theorem dX1_reasonNoLoan_17 : decode cX1_reasonNoLoan 17 = .ok (.ireturn, 1) := by decide +kernel
theorem dX1_reasonNoLoan_18 : decode cX1_reasonNoLoan 18 = .ok (.aload_n 0, 1) := by decide +kernel
theorem dX1_reasonNoLoan_19 : decode cX1_reasonNoLoan 19 = .ok (.getfield 24, 3) := by decide +kernel
theorem dX1_reasonNoLoan_22 : decode cX1_reasonNoLoan 22 = .ok (.iload_n 2, 1) := by decide +kernel
theorem dX1_reasonNoLoan_23 : decode cX1_reasonNoLoan 23 = .ok (.invokestatic 48, 3) := by decide +kernel
theorem dX1_reasonNoLoan_26 : decode cX1_reasonNoLoan 26 = .ok (.iconst (-1), 1) := by decide +kernel
theorem dX1_reasonNoLoan_27 : decode cX1_reasonNoLoan 27 = .ok (.if_icmp .ne 11, 3) := by decide +kernel
theorem dX1_reasonNoLoan_30 : decode cX1_reasonNoLoan 30 = .ok (.aload_n 0, 1) := by decide +kernel
theorem dX1_reasonNoLoan_31 : decode cX1_reasonNoLoan 31 = .ok (.iload_n 2, 1) := by decide +kernel
theorem dX1_reasonNoLoan_32 : decode cX1_reasonNoLoan 32 = .ok (.invokevirtual 60, 3) := by decide +kernel
theorem dX1_reasonNoLoan_35 : decode cX1_reasonNoLoan 35 = .ok (.ifCond .eq 7, 3) := by decide +kernel
theorem dX1_reasonNoLoan_38 : decode cX1_reasonNoLoan 38 = .ok (.iconst 3, 1) := by decide +kernel
theorem dX1_reasonNoLoan_39 : decode cX1_reasonNoLoan 39 = .ok (.goto 4, 3) := by decide +kernel
theorem dX1_reasonNoLoan_42 : decode cX1_reasonNoLoan 42 = .ok (.iconst 0, 1) := by decide +kernel
theorem dX1_reasonNoLoan_43 : decode cX1_reasonNoLoan 43 = .ok (.ireturn, 1) := by decide +kernel
set_option maxRecDepth 20000 in
theorem ggX1_lendCoat_X5_put : GoodIn wsX1_lendCoat wsX5_put := goodIn_r _ [5] (by decide +kernel) (by decide +kernel)
set_option maxRecDepth 20000 in
theorem gX1_lendCoat_X5_put_n40 : GoodIn wsX1_lendCoat (wsX5_put) := ggX1_lendCoat_X5_put
theorem dX1_lendCoat_0 : decode cX1_lendCoat 0 = .ok (.aload_n 0, 1) := by decide +kernel
theorem dX1_lendCoat_1 : decode cX1_lendCoat 1 = .ok (.getfield 27, 3) := by decide +kernel
theorem dX1_lendCoat_4 : decode cX1_lendCoat 4 = .ok (.iload_n 1, 1) := by decide +kernel
theorem dX1_lendCoat_5 : decode cX1_lendCoat 5 = .ok (.iload_n 2, 1) := by decide +kernel
theorem dX1_lendCoat_6 : decode cX1_lendCoat 6 = .ok (.invokestatic 40, 3) := by decide +kernel
theorem dX1_lendCoat_9 : decode cX1_lendCoat 9 = .ok (.aload_n 0, 1) := by decide +kernel
theorem dX1_lendCoat_10 : decode cX1_lendCoat 10 = .ok (.getfield 24, 3) := by decide +kernel
theorem dX1_lendCoat_13 : decode cX1_lendCoat 13 = .ok (.iload_n 2, 1) := by decide +kernel
theorem dX1_lendCoat_14 : decode cX1_lendCoat 14 = .ok (.iload_n 1, 1) := by decide +kernel
theorem dX1_lendCoat_15 : decode cX1_lendCoat 15 = .ok (.invokestatic 40, 3) := by decide +kernel
theorem dX1_lendCoat_18 : decode cX1_lendCoat 18 = .ok (.return_, 1) := by decide +kernel
set_option maxRecDepth 20000 in
theorem ggX1_canReturnCoat_X5_at : GoodIn wsX1_canReturnCoat wsX5_at := goodIn_r _ [4] (by decide +kernel) (by decide +kernel)
set_option maxRecDepth 20000 in
theorem gX1_canReturnCoat_X5_at_n48 : GoodIn wsX1_canReturnCoat (wsX5_at) := ggX1_canReturnCoat_X5_at
set_option maxRecDepth 20000 in
theorem ggX1_canReturnCoat_X1_isIn : GoodIn wsX1_canReturnCoat wsX1_isIn := goodIn_r _ [9, 10, 2, 3, 4, 11, 12, 13, 14, 15, 16, 17, 18, 19] (by decide +kernel) (by decide +kernel)
set_option maxRecDepth 20000 in
theorem gX1_canReturnCoat_X1_isIn : GoodIn wsX1_canReturnCoat (wsV RX1 60 RX1 yX1_isIn wsX1_isIn) := goodIn_app (goodIn_of _ (by decide +kernel)) ggX1_canReturnCoat_X1_isIn
theorem dX1_canReturnCoat_0 : decode cX1_canReturnCoat 0 = .ok (.aload_n 0, 1) := by decide +kernel
theorem dX1_canReturnCoat_1 : decode cX1_canReturnCoat 1 = .ok (.getfield 24, 3) := by decide +kernel
theorem dX1_canReturnCoat_4 : decode cX1_canReturnCoat 4 = .ok (.iload_n 1, 1) := by decide +kernel
theorem dX1_canReturnCoat_5 : decode cX1_canReturnCoat 5 = .ok (.invokestatic 48, 3) := by decide +kernel
theorem dX1_canReturnCoat_8 : decode cX1_canReturnCoat 8 = .ok (.istore_n 2, 1) := by decide +kernel
theorem dX1_canReturnCoat_9 : decode cX1_canReturnCoat 9 = .ok (.iload_n 2, 1) := by decide +kernel
theorem dX1_canReturnCoat_10 : decode cX1_canReturnCoat 10 = .ok (.iconst (-1), 1) := by decide +kernel
theorem dX1_canReturnCoat_11 : decode cX1_canReturnCoat 11 = .ok (.if_icmp .eq 23, 3) := by decide +kernel
theorem dX1_canReturnCoat_14 : decode cX1_canReturnCoat 14 = .ok (.aload_n 0, 1) := by decide +kernel
theorem dX1_canReturnCoat_15 : decode cX1_canReturnCoat 15 = .ok (.iload_n 1, 1) := by decide +kernel
theorem dX1_canReturnCoat_16 : decode cX1_canReturnCoat 16 = .ok (.invokevirtual 60, 3) := by decide +kernel
theorem dX1_canReturnCoat_19 : decode cX1_canReturnCoat 19 = .ok (.ifCond .ne 15, 3) := by decide +kernel
theorem dX1_canReturnCoat_22 : decode cX1_canReturnCoat 22 = .ok (.aload_n 0, 1) := by decide +kernel
theorem dX1_canReturnCoat_23 : decode cX1_canReturnCoat 23 = .ok (.iload_n 2, 1) := by decide +kernel
theorem dX1_canReturnCoat_24 : decode cX1_canReturnCoat 24 = .ok (.invokevirtual 60, 3) := by decide +kernel
theorem dX1_canReturnCoat_27 : decode cX1_canReturnCoat 27 = .ok (.ifCond .ne 7, 3) := by decide +kernel
theorem dX1_canReturnCoat_30 : decode cX1_canReturnCoat 30 = .ok (.iconst 1, 1) := by decide +kernel
theorem dX1_canReturnCoat_31 : decode cX1_canReturnCoat 31 = .ok (.goto 4, 3) := by decide +kernel
theorem dX1_canReturnCoat_34 : decode cX1_canReturnCoat 34 = .ok (.iconst 0, 1) := by decide +kernel
theorem dX1_canReturnCoat_35 : decode cX1_canReturnCoat 35 = .ok (.ireturn, 1) := by decide +kernel
set_option maxRecDepth 20000 in
theorem ggX1_returnCoat_X5_at : GoodIn wsX1_returnCoat wsX5_at := goodIn_r _ [5] (by decide +kernel) (by decide +kernel)
set_option maxRecDepth 20000 in
theorem gX1_returnCoat_X5_at_n48 : GoodIn wsX1_returnCoat (wsX5_at) := ggX1_returnCoat_X5_at
set_option maxRecDepth 20000 in
theorem ggX1_returnCoat_X5_put : GoodIn wsX1_returnCoat wsX5_put := goodIn_r _ [7] (by decide +kernel) (by decide +kernel)
set_option maxRecDepth 20000 in
theorem gX1_returnCoat_X5_put_n40 : GoodIn wsX1_returnCoat (wsX5_put) := ggX1_returnCoat_X5_put
theorem dX1_returnCoat_0 : decode cX1_returnCoat 0 = .ok (.aload_n 0, 1) := by decide +kernel
theorem dX1_returnCoat_1 : decode cX1_returnCoat 1 = .ok (.getfield 24, 3) := by decide +kernel
theorem dX1_returnCoat_4 : decode cX1_returnCoat 4 = .ok (.iload_n 1, 1) := by decide +kernel
theorem dX1_returnCoat_5 : decode cX1_returnCoat 5 = .ok (.invokestatic 48, 3) := by decide +kernel
theorem dX1_returnCoat_8 : decode cX1_returnCoat 8 = .ok (.istore_n 2, 1) := by decide +kernel
theorem dX1_returnCoat_9 : decode cX1_returnCoat 9 = .ok (.aload_n 0, 1) := by decide +kernel
theorem dX1_returnCoat_10 : decode cX1_returnCoat 10 = .ok (.getfield 24, 3) := by decide +kernel
theorem dX1_returnCoat_13 : decode cX1_returnCoat 13 = .ok (.iload_n 1, 1) := by decide +kernel
theorem dX1_returnCoat_14 : decode cX1_returnCoat 14 = .ok (.iconst (-1), 1) := by decide +kernel
theorem dX1_returnCoat_15 : decode cX1_returnCoat 15 = .ok (.invokestatic 40, 3) := by decide +kernel
theorem dX1_returnCoat_18 : decode cX1_returnCoat 18 = .ok (.aload_n 0, 1) := by decide +kernel
theorem dX1_returnCoat_19 : decode cX1_returnCoat 19 = .ok (.getfield 27, 3) := by decide +kernel
theorem dX1_returnCoat_22 : decode cX1_returnCoat 22 = .ok (.iload_n 2, 1) := by decide +kernel
theorem dX1_returnCoat_23 : decode cX1_returnCoat 23 = .ok (.iconst (-1), 1) := by decide +kernel
theorem dX1_returnCoat_24 : decode cX1_returnCoat 24 = .ok (.invokestatic 40, 3) := by decide +kernel
theorem dX1_returnCoat_27 : decode cX1_returnCoat 27 = .ok (.iload_n 2, 1) := by decide +kernel
theorem dX1_returnCoat_28 : decode cX1_returnCoat 28 = .ok (.ireturn, 1) := by decide +kernel
set_option maxRecDepth 20000 in
theorem ggX1_payFromPurse_X5_at : GoodIn wsX1_payFromPurse wsX5_at := goodIn_r _ [4] (by decide +kernel) (by decide +kernel)
set_option maxRecDepth 20000 in
theorem gX1_payFromPurse_X5_at_n48 : GoodIn wsX1_payFromPurse (wsX5_at) := ggX1_payFromPurse_X5_at
set_option maxRecDepth 20000 in
theorem ggX1_payFromPurse_X5_put : GoodIn wsX1_payFromPurse wsX5_put := goodIn_r _ [6] (by decide +kernel) (by decide +kernel)
set_option maxRecDepth 20000 in
theorem gX1_payFromPurse_X5_put_n40 : GoodIn wsX1_payFromPurse (wsX5_put) := ggX1_payFromPurse_X5_put
theorem dX1_payFromPurse_0 : decode cX1_payFromPurse 0 = .ok (.aload_n 0, 1) := by decide +kernel
theorem dX1_payFromPurse_1 : decode cX1_payFromPurse 1 = .ok (.getfield 15, 3) := by decide +kernel
theorem dX1_payFromPurse_4 : decode cX1_payFromPurse 4 = .ok (.iload_n 1, 1) := by decide +kernel
theorem dX1_payFromPurse_5 : decode cX1_payFromPurse 5 = .ok (.aload_n 0, 1) := by decide +kernel
theorem dX1_payFromPurse_6 : decode cX1_payFromPurse 6 = .ok (.getfield 15, 3) := by decide +kernel
theorem dX1_payFromPurse_9 : decode cX1_payFromPurse 9 = .ok (.iload_n 1, 1) := by decide +kernel
theorem dX1_payFromPurse_10 : decode cX1_payFromPurse 10 = .ok (.invokestatic 48, 3) := by decide +kernel
theorem dX1_payFromPurse_13 : decode cX1_payFromPurse 13 = .ok (.iload_n 2, 1) := by decide +kernel
theorem dX1_payFromPurse_14 : decode cX1_payFromPurse 14 = .ok (.isub, 1) := by decide +kernel
theorem dX1_payFromPurse_15 : decode cX1_payFromPurse 15 = .ok (.invokestatic 40, 3) := by decide +kernel
theorem dX1_payFromPurse_18 : decode cX1_payFromPurse 18 = .ok (.iload_n 2, 1) := by decide +kernel
theorem dX1_payFromPurse_19 : decode cX1_payFromPurse 19 = .ok (.ireturn, 1) := by decide +kernel
set_option maxRecDepth 20000 in
theorem ggX1_howManyMasked_X5_at : GoodIn wsX1_howManyMasked wsX5_at := goodIn_r _ [5] (by decide +kernel) (by decide +kernel)
set_option maxRecDepth 20000 in
theorem gX1_howManyMasked_X5_at_n48 : GoodIn wsX1_howManyMasked (wsX5_at) := ggX1_howManyMasked_X5_at
theorem dX1_howManyMasked_0 : decode cX1_howManyMasked 0 = .ok (.iconst 0, 1) := by decide +kernel
theorem dX1_howManyMasked_1 : decode cX1_howManyMasked 1 = .ok (.istore_n 1, 1) := by decide +kernel
theorem dX1_howManyMasked_2 : decode cX1_howManyMasked 2 = .ok (.iconst 0, 1) := by decide +kernel
theorem dX1_howManyMasked_3 : decode cX1_howManyMasked 3 = .ok (.istore_n 2, 1) := by decide +kernel
theorem dX1_howManyMasked_4 : decode cX1_howManyMasked 4 = .ok (.iload_n 2, 1) := by decide +kernel
theorem dX1_howManyMasked_5 : decode cX1_howManyMasked 5 = .ok (.aload_n 0, 1) := by decide +kernel
theorem dX1_howManyMasked_6 : decode cX1_howManyMasked 6 = .ok (.getfield 36, 3) := by decide +kernel
theorem dX1_howManyMasked_9 : decode cX1_howManyMasked 9 = .ok (.if_icmp .ge 28, 3) := by decide +kernel
theorem dX1_howManyMasked_12 : decode cX1_howManyMasked 12 = .ok (.iload_n 1, 1) := by decide +kernel
theorem dX1_howManyMasked_13 : decode cX1_howManyMasked 13 = .ok (.aload_n 0, 1) := by decide +kernel
theorem dX1_howManyMasked_14 : decode cX1_howManyMasked 14 = .ok (.getfield 30, 3) := by decide +kernel
theorem dX1_howManyMasked_17 : decode cX1_howManyMasked 17 = .ok (.iload_n 2, 1) := by decide +kernel
theorem dX1_howManyMasked_18 : decode cX1_howManyMasked 18 = .ok (.invokestatic 48, 3) := by decide +kernel
theorem dX1_howManyMasked_21 : decode cX1_howManyMasked 21 = .ok (.ifCond .le 7, 3) := by decide +kernel
theorem dX1_howManyMasked_24 : decode cX1_howManyMasked 24 = .ok (.iconst 1, 1) := by decide +kernel
theorem dX1_howManyMasked_25 : decode cX1_howManyMasked 25 = .ok (.goto 4, 3) := by decide +kernel
theorem dX1_howManyMasked_28 : decode cX1_howManyMasked 28 = .ok (.iconst 0, 1) := by decide +kernel
theorem dX1_howManyMasked_29 : decode cX1_howManyMasked 29 = .ok (.iadd, 1) := by decide +kernel
theorem dX1_howManyMasked_30 : decode cX1_howManyMasked 30 = .ok (.istore_n 1, 1) := by decide +kernel
theorem dX1_howManyMasked_31 : decode cX1_howManyMasked 31 = .ok (.iinc 2 1, 3) := by decide +kernel
theorem dX1_howManyMasked_34 : decode cX1_howManyMasked 34 = .ok (.goto (-30), 3) := by decide +kernel
theorem dX1_howManyMasked_37 : decode cX1_howManyMasked 37 = .ok (.iload_n 1, 1) := by decide +kernel
theorem dX1_howManyMasked_38 : decode cX1_howManyMasked 38 = .ok (.ireturn, 1) := by decide +kernel
set_option maxRecDepth 20000 in
theorem ggX1_bitsOfInside_X1_isIn : GoodIn wsX1_bitsOfInside wsX1_isIn := goodIn_r _ [6, 7, 8, 9, 10, 11, 12, 13, 14, 15, 16, 17, 18, 19] (by decide +kernel) (by decide +kernel)
set_option maxRecDepth 20000 in
theorem gX1_bitsOfInside_X1_isIn : GoodIn wsX1_bitsOfInside (wsV RX1 60 RX1 yX1_isIn wsX1_isIn) := goodIn_app (goodIn_of _ (by decide +kernel)) ggX1_bitsOfInside_X1_isIn
theorem dX1_bitsOfInside_0 : decode cX1_bitsOfInside 0 = .ok (.iconst 0, 1) := by decide +kernel
theorem dX1_bitsOfInside_1 : decode cX1_bitsOfInside 1 = .ok (.istore_n 1, 1) := by decide +kernel
theorem dX1_bitsOfInside_2 : decode cX1_bitsOfInside 2 = .ok (.iconst 0, 1) := by decide +kernel
theorem dX1_bitsOfInside_3 : decode cX1_bitsOfInside 3 = .ok (.istore_n 2, 1) := by decide +kernel
theorem dX1_bitsOfInside_4 : decode cX1_bitsOfInside 4 = .ok (.iload_n 2, 1) := by decide +kernel
theorem dX1_bitsOfInside_5 : decode cX1_bitsOfInside 5 = .ok (.aload_n 0, 1) := by decide +kernel
theorem dX1_bitsOfInside_6 : decode cX1_bitsOfInside 6 = .ok (.getfield 36, 3) := by decide +kernel
theorem dX1_bitsOfInside_9 : decode cX1_bitsOfInside 9 = .ok (.if_icmp .ge 27, 3) := by decide +kernel
theorem dX1_bitsOfInside_12 : decode cX1_bitsOfInside 12 = .ok (.iload_n 1, 1) := by decide +kernel
theorem dX1_bitsOfInside_13 : decode cX1_bitsOfInside 13 = .ok (.aload_n 0, 1) := by decide +kernel
theorem dX1_bitsOfInside_14 : decode cX1_bitsOfInside 14 = .ok (.iload_n 2, 1) := by decide +kernel
theorem dX1_bitsOfInside_15 : decode cX1_bitsOfInside 15 = .ok (.invokevirtual 60, 3) := by decide +kernel
theorem dX1_bitsOfInside_18 : decode cX1_bitsOfInside 18 = .ok (.ifCond .eq 9, 3) := by decide +kernel
theorem dX1_bitsOfInside_21 : decode cX1_bitsOfInside 21 = .ok (.iconst 1, 1) := by decide +kernel
theorem dX1_bitsOfInside_22 : decode cX1_bitsOfInside 22 = .ok (.iload_n 2, 1) := by decide +kernel
theorem dX1_bitsOfInside_23 : decode cX1_bitsOfInside 23 = .ok (.ishl, 1) := by decide +kernel
theorem dX1_bitsOfInside_24 : decode cX1_bitsOfInside 24 = .ok (.goto 4, 3) := by decide +kernel
theorem dX1_bitsOfInside_27 : decode cX1_bitsOfInside 27 = .ok (.iconst 0, 1) := by decide +kernel
theorem dX1_bitsOfInside_28 : decode cX1_bitsOfInside 28 = .ok (.ior, 1) := by decide +kernel
theorem dX1_bitsOfInside_29 : decode cX1_bitsOfInside 29 = .ok (.istore_n 1, 1) := by decide +kernel
theorem dX1_bitsOfInside_30 : decode cX1_bitsOfInside 30 = .ok (.iinc 2 1, 3) := by decide +kernel
theorem dX1_bitsOfInside_33 : decode cX1_bitsOfInside 33 = .ok (.goto (-29), 3) := by decide +kernel
theorem dX1_bitsOfInside_36 : decode cX1_bitsOfInside 36 = .ok (.iload_n 1, 1) := by decide +kernel
theorem dX1_bitsOfInside_37 : decode cX1_bitsOfInside 37 = .ok (.ireturn, 1) := by decide +kernel
set_option maxRecDepth 20000 in
theorem ggX1_passNight_X5_put : GoodIn wsX1_passNight wsX5_put := goodIn_r _ [10] (by decide +kernel) (by decide +kernel)
set_option maxRecDepth 20000 in
theorem gX1_passNight_X5_put_n40 : GoodIn wsX1_passNight (wsX5_put) := ggX1_passNight_X5_put
set_option maxRecDepth 20000 in
theorem ggX1_passNight_X5_at : GoodIn wsX1_passNight wsX5_at := goodIn_r _ [12] (by decide +kernel) (by decide +kernel)
set_option maxRecDepth 20000 in
theorem gX1_passNight_X5_at_n48 : GoodIn wsX1_passNight (wsX5_at) := ggX1_passNight_X5_at
theorem dX1_passNight_0 : decode cX1_passNight 0 = .ok (.iconst 0, 1) := by decide +kernel
theorem dX1_passNight_1 : decode cX1_passNight 1 = .ok (.istore_n 1, 1) := by decide +kernel
theorem dX1_passNight_2 : decode cX1_passNight 2 = .ok (.iload_n 1, 1) := by decide +kernel
theorem dX1_passNight_3 : decode cX1_passNight 3 = .ok (.aload_n 0, 1) := by decide +kernel
theorem dX1_passNight_4 : decode cX1_passNight 4 = .ok (.getfield 36, 3) := by decide +kernel
theorem dX1_passNight_7 : decode cX1_passNight 7 = .ok (.if_icmp .ge 40, 3) := by decide +kernel
theorem dX1_passNight_10 : decode cX1_passNight 10 = .ok (.aload_n 0, 1) := by decide +kernel
theorem dX1_passNight_11 : decode cX1_passNight 11 = .ok (.getfield 33, 3) := by decide +kernel
theorem dX1_passNight_14 : decode cX1_passNight 14 = .ok (.iload_n 1, 1) := by decide +kernel
theorem dX1_passNight_15 : decode cX1_passNight 15 = .ok (.iconst 0, 1) := by decide +kernel
theorem dX1_passNight_16 : decode cX1_passNight 16 = .ok (.invokestatic 40, 3) := by decide +kernel
theorem dX1_passNight_19 : decode cX1_passNight 19 = .ok (.aload_n 0, 1) := by decide +kernel
theorem dX1_passNight_20 : decode cX1_passNight 20 = .ok (.getfield 30, 3) := by decide +kernel
theorem dX1_passNight_23 : decode cX1_passNight 23 = .ok (.iload_n 1, 1) := by decide +kernel
theorem dX1_passNight_24 : decode cX1_passNight 24 = .ok (.aload_n 0, 1) := by decide +kernel
theorem dX1_passNight_25 : decode cX1_passNight 25 = .ok (.getfield 30, 3) := by decide +kernel
theorem dX1_passNight_28 : decode cX1_passNight 28 = .ok (.iload_n 1, 1) := by decide +kernel
theorem dX1_passNight_29 : decode cX1_passNight 29 = .ok (.invokestatic 48, 3) := by decide +kernel
theorem dX1_passNight_32 : decode cX1_passNight 32 = .ok (.iconst 1, 1) := by decide +kernel
theorem dX1_passNight_33 : decode cX1_passNight 33 = .ok (.isub, 1) := by decide +kernel
theorem dX1_passNight_34 : decode cX1_passNight 34 = .ok (.iconst 0, 1) := by decide +kernel
theorem dX1_passNight_35 : decode cX1_passNight 35 = .ok (.invokestatic 64, 3) := by decide +kernel
theorem dX1_passNight_38 : decode cX1_passNight 38 = .ok (.invokestatic 40, 3) := by decide +kernel
theorem dX1_passNight_41 : decode cX1_passNight 41 = .ok (.iinc 1 1, 3) := by decide +kernel
theorem dX1_passNight_44 : decode cX1_passNight 44 = .ok (.goto (-42), 3) := by decide +kernel
theorem dX1_passNight_47 : decode cX1_passNight 47 = .ok (.return_, 1) := by decide +kernel
set_option maxRecDepth 20000 in
theorem ggX1_copyGuests_X5_copyRow : GoodIn wsX1_copyGuests wsX5_copyRow := goodIn_r _ [12, 13, 14, 15, 16, 17, 18, 19, 20] (by decide +kernel) (by decide +kernel)
set_option maxRecDepth 20000 in
theorem gX1_copyGuests_X5_copyRow_n69 : GoodIn wsX1_copyGuests (wsX5_copyRow) := ggX1_copyGuests_X5_copyRow
theorem dX1_copyGuests_0 : decode cX1_copyGuests 0 = .ok (.aload_n 1, 1) := by decide +kernel
theorem dX1_copyGuests_1 : decode cX1_copyGuests 1 = .ok (.getfield 9, 3) := by decide +kernel
theorem dX1_copyGuests_4 : decode cX1_copyGuests 4 = .ok (.aload_n 0, 1) := by decide +kernel
theorem dX1_copyGuests_5 : decode cX1_copyGuests 5 = .ok (.getfield 9, 3) := by decide +kernel
theorem dX1_copyGuests_8 : decode cX1_copyGuests 8 = .ok (.invokestatic 69, 3) := by decide +kernel
theorem dX1_copyGuests_11 : decode cX1_copyGuests 11 = .ok (.aload_n 1, 1) := by decide +kernel
theorem dX1_copyGuests_12 : decode cX1_copyGuests 12 = .ok (.getfield 15, 3) := by decide +kernel
theorem dX1_copyGuests_15 : decode cX1_copyGuests 15 = .ok (.aload_n 0, 1) := by decide +kernel
theorem dX1_copyGuests_16 : decode cX1_copyGuests 16 = .ok (.getfield 15, 3) := by decide +kernel
theorem dX1_copyGuests_19 : decode cX1_copyGuests 19 = .ok (.invokestatic 69, 3) := by decide +kernel
theorem dX1_copyGuests_22 : decode cX1_copyGuests 22 = .ok (.aload_n 1, 1) := by decide +kernel
theorem dX1_copyGuests_23 : decode cX1_copyGuests 23 = .ok (.getfield 18, 3) := by decide +kernel
theorem dX1_copyGuests_26 : decode cX1_copyGuests 26 = .ok (.aload_n 0, 1) := by decide +kernel
theorem dX1_copyGuests_27 : decode cX1_copyGuests 27 = .ok (.getfield 18, 3) := by decide +kernel
theorem dX1_copyGuests_30 : decode cX1_copyGuests 30 = .ok (.invokestatic 69, 3) := by decide +kernel
theorem dX1_copyGuests_33 : decode cX1_copyGuests 33 = .ok (.aload_n 1, 1) := by decide +kernel
theorem dX1_copyGuests_34 : decode cX1_copyGuests 34 = .ok (.getfield 21, 3) := by decide +kernel
theorem dX1_copyGuests_37 : decode cX1_copyGuests 37 = .ok (.aload_n 0, 1) := by decide +kernel
theorem dX1_copyGuests_38 : decode cX1_copyGuests 38 = .ok (.getfield 21, 3) := by decide +kernel
theorem dX1_copyGuests_41 : decode cX1_copyGuests 41 = .ok (.invokestatic 69, 3) := by decide +kernel
theorem dX1_copyGuests_44 : decode cX1_copyGuests 44 = .ok (.aload_n 1, 1) := by decide +kernel
theorem dX1_copyGuests_45 : decode cX1_copyGuests 45 = .ok (.getfield 24, 3) := by decide +kernel
theorem dX1_copyGuests_48 : decode cX1_copyGuests 48 = .ok (.aload_n 0, 1) := by decide +kernel
theorem dX1_copyGuests_49 : decode cX1_copyGuests 49 = .ok (.getfield 24, 3) := by decide +kernel
theorem dX1_copyGuests_52 : decode cX1_copyGuests 52 = .ok (.invokestatic 69, 3) := by decide +kernel
theorem dX1_copyGuests_55 : decode cX1_copyGuests 55 = .ok (.aload_n 1, 1) := by decide +kernel
theorem dX1_copyGuests_56 : decode cX1_copyGuests 56 = .ok (.getfield 27, 3) := by decide +kernel
theorem dX1_copyGuests_59 : decode cX1_copyGuests 59 = .ok (.aload_n 0, 1) := by decide +kernel
theorem dX1_copyGuests_60 : decode cX1_copyGuests 60 = .ok (.getfield 27, 3) := by decide +kernel
theorem dX1_copyGuests_63 : decode cX1_copyGuests 63 = .ok (.invokestatic 69, 3) := by decide +kernel
theorem dX1_copyGuests_66 : decode cX1_copyGuests 66 = .ok (.aload_n 1, 1) := by decide +kernel
theorem dX1_copyGuests_67 : decode cX1_copyGuests 67 = .ok (.getfield 30, 3) := by decide +kernel
theorem dX1_copyGuests_70 : decode cX1_copyGuests 70 = .ok (.aload_n 0, 1) := by decide +kernel
theorem dX1_copyGuests_71 : decode cX1_copyGuests 71 = .ok (.getfield 30, 3) := by decide +kernel
theorem dX1_copyGuests_74 : decode cX1_copyGuests 74 = .ok (.invokestatic 69, 3) := by decide +kernel
theorem dX1_copyGuests_77 : decode cX1_copyGuests 77 = .ok (.aload_n 1, 1) := by decide +kernel
theorem dX1_copyGuests_78 : decode cX1_copyGuests 78 = .ok (.getfield 33, 3) := by decide +kernel
theorem dX1_copyGuests_81 : decode cX1_copyGuests 81 = .ok (.aload_n 0, 1) := by decide +kernel
theorem dX1_copyGuests_82 : decode cX1_copyGuests 82 = .ok (.getfield 33, 3) := by decide +kernel
theorem dX1_copyGuests_85 : decode cX1_copyGuests 85 = .ok (.invokestatic 69, 3) := by decide +kernel
theorem dX1_copyGuests_88 : decode cX1_copyGuests 88 = .ok (.aload_n 0, 1) := by decide +kernel
theorem dX1_copyGuests_89 : decode cX1_copyGuests 89 = .ok (.aload_n 1, 1) := by decide +kernel
theorem dX1_copyGuests_90 : decode cX1_copyGuests 90 = .ok (.getfield 36, 3) := by decide +kernel
theorem dX1_copyGuests_93 : decode cX1_copyGuests 93 = .ok (.putfield 36, 3) := by decide +kernel
theorem dX1_copyGuests_96 : decode cX1_copyGuests 96 = .ok (.return_, 1) := by decide +kernel
set_option maxRecDepth 20000 in
theorem ggX2_init_X0_init : GoodIn wsX2_init wsX0_init := goodIn_r _ [9, 10, 2, 3, 11, 12, 13, 14, 15, 16, 17, 18, 19, 20, 21, 22, 23, 24, 25, 26, 27, 28, 29, 30, 31, 32, 33, 34, 35, 36, 37, 38, 39, 40, 41, 42, 43, 44, 45, 46, 47, 48, 49, 65, 66, 67, 68, 69, 70, 71, 72, 73, 53, 54, 55, 56, 57, 58, 59, 60, 61, 62, 63, 64, 74, 75] (by decide +kernel) (by decide +kernel)
set_option maxRecDepth 20000 in
theorem gX2_init_X0_init_n17 : GoodIn wsX2_init (wsX0_init) := ggX2_init_X0_init
theorem dX2_init_0 : decode cX2_init 0 = .ok (.aload_n 0, 1) := by decide +kernel
theorem dX2_init_1 : decode cX2_init 1 = .ok (.invokespecial 3, 3) := by decide +kernel
theorem dX2_init_4 : decode cX2_init 4 = .ok (.aload_n 0, 1) := by decide +kernel
theorem dX2_init_5 : decode cX2_init 5 = .ok (.bipush 6, 2) := by decide +kernel
theorem dX2_init_7 : decode cX2_init 7 = .ok (.anewarray 9, 3) := by decide +kernel
theorem dX2_init_10 : decode cX2_init 10 = .ok (.putfield 11, 3) := by decide +kernel
theorem dX2_init_13 : decode cX2_init 13 = .ok (.iconst 0, 1) := by decide +kernel
theorem dX2_init_14 : decode cX2_init 14 = .ok (.istore_n 1, 1) := by decide +kernel
theorem dX2_init_15 : decode cX2_init 15 = .ok (.iload_n 1, 1) := by decide +kernel
theorem dX2_init_16 : decode cX2_init 16 = .ok (.aload_n 0, 1) := by decide +kernel
theorem dX2_init_17 : decode cX2_init 17 = .ok (.getfield 11, 3) := by decide +kernel
theorem dX2_init_20 : decode cX2_init 20 = .ok (.arraylength, 1) := by decide +kernel
theorem dX2_init_21 : decode cX2_init 21 = .ok (.if_icmp .ge 22, 3) := by decide +kernel
theorem dX2_init_24 : decode cX2_init 24 = .ok (.aload_n 0, 1) := by decide +kernel
theorem dX2_init_25 : decode cX2_init 25 = .ok (.getfield 11, 3) := by decide +kernel
theorem dX2_init_28 : decode cX2_init 28 = .ok (.iload_n 1, 1) := by decide +kernel
theorem dX2_init_29 : decode cX2_init 29 = .ok (.new 9, 3) := by decide +kernel
theorem dX2_init_32 : decode cX2_init 32 = .ok (.dup, 1) := by decide +kernel
theorem dX2_init_33 : decode cX2_init 33 = .ok (.invokespecial 17, 3) := by decide +kernel
theorem dX2_init_36 : decode cX2_init 36 = .ok (.aastore, 1) := by decide +kernel
theorem dX2_init_37 : decode cX2_init 37 = .ok (.iinc 1 1, 3) := by decide +kernel
theorem dX2_init_40 : decode cX2_init 40 = .ok (.goto (-25), 3) := by decide +kernel
theorem dX2_init_43 : decode cX2_init 43 = .ok (.return_, 1) := by decide +kernel
set_option maxRecDepth 20000 in
theorem ggX2_save_X2_stateAt : GoodIn wsX2_save wsX2_stateAt := goodIn_r _ [7, 2, 8, 55, 56, 57] (by decide +kernel) (by decide +kernel)
set_option maxRecDepth 20000 in
theorem gX2_save_X2_stateAt : GoodIn wsX2_save (wsV RX2 25 RX2 yX2_stateAt wsX2_stateAt) := goodIn_app (goodIn_of _ (by decide +kernel)) ggX2_save_X2_stateAt
set_option maxRecDepth 20000 in
theorem ggX2_save_X0_copyState : GoodIn wsX2_save wsX0_copyState := goodIn_r _ [12, 13, 14, 15, 16, 17, 18, 19, 20, 21, 22, 23, 24, 25, 26, 27, 28, 29, 30, 31, 32, 33, 34, 35, 36, 37, 38, 39, 40, 41, 42, 43, 44, 45, 46, 47, 48, 49, 50, 51, 52, 53, 54, 58, 59, 60, 61, 62, 63, 64, 65, 66, 67, 68, 69, 70, 71, 72, 73, 74, 75, 76, 77, 78, 79, 80] (by decide +kernel) (by decide +kernel)
set_option maxRecDepth 20000 in
theorem gX2_save_X0_copyState_n29 : GoodIn wsX2_save (wsX0_copyState) := ggX2_save_X0_copyState
theorem dX2_save_0 : decode cX2_save 0 = .ok (.aload_n 0, 1) := by decide +kernel
theorem dX2_save_1 : decode cX2_save 1 = .ok (.getfield 18, 3) := by decide +kernel
theorem dX2_save_4 : decode cX2_save 4 = .ok (.bipush 6, 2) := by decide +kernel
theorem dX2_save_6 : decode cX2_save 6 = .ok (.if_icmp .ne 26, 3) := by decide +kernel
theorem dX2_save_9 : decode cX2_save 9 = .ok (.aload_n 0, 1) := by decide +kernel
theorem dX2_save_10 : decode cX2_save 10 = .ok (.aload_n 0, 1) := by decide +kernel
theorem dX2_save_11 : decode cX2_save 11 = .ok (.getfield 22, 3) := by decide +kernel
theorem dX2_save_14 : decode cX2_save 14 = .ok (.iconst 1, 1) := by decide +kernel
theorem dX2_save_15 : decode cX2_save 15 = .ok (.iadd, 1) := by decide +kernel
theorem dX2_save_16 : decode cX2_save 16 = .ok (.bipush 6, 2) := by decide +kernel
theorem dX2_save_18 : decode cX2_save 18 = .ok (.irem, 1) := by decide +kernel
theorem dX2_save_19 : decode cX2_save 19 = .ok (.putfield 22, 3) := by decide +kernel
theorem dX2_save_22 : decode cX2_save 22 = .ok (.aload_n 0, 1) := by decide +kernel
theorem dX2_save_23 : decode cX2_save 23 = .ok (.dup, 1) := by decide +kernel
theorem dX2_save_24 : decode cX2_save 24 = .ok (.getfield 18, 3) := by decide +kernel
theorem dX2_save_27 : decode cX2_save 27 = .ok (.iconst 1, 1) := by decide +kernel
theorem dX2_save_28 : decode cX2_save 28 = .ok (.isub, 1) := by decide +kernel
theorem dX2_save_29 : decode cX2_save 29 = .ok (.putfield 18, 3) := by decide +kernel
theorem dX2_save_32 : decode cX2_save 32 = .ok (.aload_n 0, 1) := by decide +kernel
theorem dX2_save_33 : decode cX2_save 33 = .ok (.aload_n 0, 1) := by decide +kernel
theorem dX2_save_34 : decode cX2_save 34 = .ok (.getfield 18, 3) := by decide +kernel
theorem dX2_save_37 : decode cX2_save 37 = .ok (.invokevirtual 25, 3) := by decide +kernel
theorem dX2_save_40 : decode cX2_save 40 = .ok (.astore_n 2, 1) := by decide +kernel
theorem dX2_save_41 : decode cX2_save 41 = .ok (.aload_n 2, 1) := by decide +kernel
theorem dX2_save_42 : decode cX2_save 42 = .ok (.ifnull 18, 3) := by decide +kernel
theorem dX2_save_45 : decode cX2_save 45 = .ok (.aload_n 2, 1) := by decide +kernel
theorem dX2_save_46 : decode cX2_save 46 = .ok (.aload_n 1, 1) := by decide +kernel
theorem dX2_save_47 : decode cX2_save 47 = .ok (.invokevirtual 29, 3) := by decide +kernel
theorem dX2_save_50 : decode cX2_save 50 = .ok (.aload_n 0, 1) := by decide +kernel
theorem dX2_save_51 : decode cX2_save 51 = .ok (.dup, 1) := by decide +kernel
theorem dX2_save_52 : decode cX2_save 52 = .ok (.getfield 18, 3) := by decide +kernel
theorem dX2_save_55 : decode cX2_save 55 = .ok (.iconst 1, 1) := by decide +kernel
theorem dX2_save_56 : decode cX2_save 56 = .ok (.iadd, 1) := by decide +kernel
theorem dX2_save_57 : decode cX2_save 57 = .ok (.putfield 18, 3) := by decide +kernel
theorem dX2_save_60 : decode cX2_save 60 = .ok (.return_, 1) := by decide +kernel
set_option maxRecDepth 20000 in
theorem ggX2_bringBack_X2_stateAt : GoodIn wsX2_bringBack wsX2_stateAt := goodIn_r _ [6, 7, 8, 55, 56, 57] (by decide +kernel) (by decide +kernel)
set_option maxRecDepth 20000 in
theorem gX2_bringBack_X2_stateAt : GoodIn wsX2_bringBack (wsV RX2 25 RX2 yX2_stateAt wsX2_stateAt) := goodIn_app (goodIn_of _ (by decide +kernel)) ggX2_bringBack_X2_stateAt
set_option maxRecDepth 20000 in
theorem ggX2_bringBack_X0_copyState : GoodIn wsX2_bringBack wsX0_copyState := goodIn_r _ [12, 13, 14, 15, 16, 17, 18, 19, 20, 21, 22, 23, 24, 25, 26, 27, 28, 29, 30, 31, 32, 33, 34, 35, 36, 37, 38, 39, 40, 41, 42, 43, 44, 45, 46, 47, 48, 49, 50, 51, 52, 53, 54, 58, 59, 60, 61, 62, 63, 64, 65, 66, 67, 68, 69, 70, 71, 72, 73, 74, 75, 76, 77, 78, 79, 80] (by decide +kernel) (by decide +kernel)
set_option maxRecDepth 20000 in
theorem gX2_bringBack_X0_copyState_n29 : GoodIn wsX2_bringBack (wsX0_copyState) := ggX2_bringBack_X0_copyState
theorem dX2_bringBack_0 : decode cX2_bringBack 0 = .ok (.aload_n 0, 1) := by decide +kernel
theorem dX2_bringBack_1 : decode cX2_bringBack 1 = .ok (.aload_n 0, 1) := by decide +kernel
theorem dX2_bringBack_2 : decode cX2_bringBack 2 = .ok (.getfield 18, 3) := by decide +kernel
theorem dX2_bringBack_5 : decode cX2_bringBack 5 = .ok (.iconst 1, 1) := by decide +kernel
theorem dX2_bringBack_6 : decode cX2_bringBack 6 = .ok (.isub, 1) := by decide +kernel
theorem dX2_bringBack_7 : decode cX2_bringBack 7 = .ok (.invokevirtual 25, 3) := by decide +kernel
theorem dX2_bringBack_10 : decode cX2_bringBack 10 = .ok (.astore_n 2, 1) := by decide +kernel
theorem dX2_bringBack_11 : decode cX2_bringBack 11 = .ok (.aload_n 2, 1) := by decide +kernel
theorem dX2_bringBack_12 : decode cX2_bringBack 12 = .ok (.ifnull 18, 3) := by decide +kernel
theorem dX2_bringBack_15 : decode cX2_bringBack 15 = .ok (.aload_n 1, 1) := by decide +kernel
theorem dX2_bringBack_16 : decode cX2_bringBack 16 = .ok (.aload_n 2, 1) := by decide +kernel
theorem dX2_bringBack_17 : decode cX2_bringBack 17 = .ok (.invokevirtual 29, 3) := by decide +kernel
theorem dX2_bringBack_20 : decode cX2_bringBack 20 = .ok (.aload_n 0, 1) := by decide +kernel
theorem dX2_bringBack_21 : decode cX2_bringBack 21 = .ok (.dup, 1) := by decide +kernel
theorem dX2_bringBack_22 : decode cX2_bringBack 22 = .ok (.getfield 18, 3) := by decide +kernel
theorem dX2_bringBack_25 : decode cX2_bringBack 25 = .ok (.iconst 1, 1) := by decide +kernel
theorem dX2_bringBack_26 : decode cX2_bringBack 26 = .ok (.isub, 1) := by decide +kernel
theorem dX2_bringBack_27 : decode cX2_bringBack 27 = .ok (.putfield 18, 3) := by decide +kernel
theorem dX2_bringBack_30 : decode cX2_bringBack 30 = .ok (.return_, 1) := by decide +kernel
theorem dX2_stateAt_0 : decode cX2_stateAt 0 = .ok (.aload_n 0, 1) := by decide +kernel
theorem dX2_stateAt_1 : decode cX2_stateAt 1 = .ok (.getfield 22, 3) := by decide +kernel
theorem dX2_stateAt_4 : decode cX2_stateAt 4 = .ok (.iload_n 1, 1) := by decide +kernel
theorem dX2_stateAt_5 : decode cX2_stateAt 5 = .ok (.iadd, 1) := by decide +kernel
theorem dX2_stateAt_6 : decode cX2_stateAt 6 = .ok (.bipush 6, 2) := by decide +kernel
theorem dX2_stateAt_8 : decode cX2_stateAt 8 = .ok (.irem, 1) := by decide +kernel
theorem dX2_stateAt_9 : decode cX2_stateAt 9 = .ok (.istore_n 2, 1) := by decide +kernel
theorem dX2_stateAt_10 : decode cX2_stateAt 10 = .ok (.iload_n 2, 1) := by decide +kernel
theorem dX2_stateAt_11 : decode cX2_stateAt 11 = .ok (.ifCond .lt 21, 3) := by decide +kernel
theorem dX2_stateAt_14 : decode cX2_stateAt 14 = .ok (.iload_n 2, 1) := by decide +kernel
theorem dX2_stateAt_15 : decode cX2_stateAt 15 = .ok (.aload_n 0, 1) := by decide +kernel
theorem dX2_stateAt_16 : decode cX2_stateAt 16 = .ok (.getfield 11, 3) := by decide +kernel
theorem dX2_stateAt_19 : decode cX2_stateAt 19 = .ok (.arraylength, 1) := by decide +kernel
theorem dX2_stateAt_20 : decode cX2_stateAt 20 = .ok (.if_icmp .ge 12, 3) := by decide +kernel
theorem dX2_stateAt_23 : decode cX2_stateAt 23 = .ok (.aload_n 0, 1) := by decide +kernel
theorem dX2_stateAt_24 : decode cX2_stateAt 24 = .ok (.getfield 11, 3) := by decide +kernel
theorem dX2_stateAt_27 : decode cX2_stateAt 27 = .ok (.iload_n 2, 1) := by decide +kernel
theorem dX2_stateAt_28 : decode cX2_stateAt 28 = .ok (.aaload, 1) := by decide +kernel
theorem dX2_stateAt_29 : decode cX2_stateAt 29 = .ok (.goto 4, 3) := by decide +kernel
theorem dX2_stateAt_32 : decode cX2_stateAt 32 = .ok (.aconst_null, 1) := by decide +kernel
theorem dX2_stateAt_33 : decode cX2_stateAt 33 = .ok (.areturn, 1) := by decide +kernel
theorem dX3_init_0 : decode cX3_init 0 = .ok (.aload_n 0, 1) := by decide +kernel
theorem dX3_init_1 : decode cX3_init 1 = .ok (.invokespecial 3, 3) := by decide +kernel
theorem dX3_init_4 : decode cX3_init 4 = .ok (.aload_n 0, 1) := by decide +kernel
theorem dX3_init_5 : decode cX3_init 5 = .ok (.bipush 30, 2) := by decide +kernel
theorem dX3_init_7 : decode cX3_init 7 = .ok (.newarray .int, 2) := by decide +kernel
theorem dX3_init_9 : decode cX3_init 9 = .ok (.putfield 9, 3) := by decide +kernel
theorem dX3_init_12 : decode cX3_init 12 = .ok (.aload_n 0, 1) := by decide +kernel
theorem dX3_init_13 : decode cX3_init 13 = .ok (.iconst 3, 1) := by decide +kernel
theorem dX3_init_14 : decode cX3_init 14 = .ok (.newarray .int, 2) := by decide +kernel
theorem dX3_init_16 : decode cX3_init 16 = .ok (.putfield 15, 3) := by decide +kernel
theorem dX3_init_19 : decode cX3_init 19 = .ok (.return_, 1) := by decide +kernel
set_option maxRecDepth 20000 in
theorem ggX3_standingAt_X5_at : GoodIn wsX3_standingAt wsX5_at := goodIn_r _ [4] (by decide +kernel) (by decide +kernel)
set_option maxRecDepth 20000 in
theorem gX3_standingAt_X5_at_n18 : GoodIn wsX3_standingAt (wsX5_at) := ggX3_standingAt_X5_at
theorem dX3_standingAt_0 : decode cX3_standingAt 0 = .ok (.aload_n 0, 1) := by decide +kernel
theorem dX3_standingAt_1 : decode cX3_standingAt 1 = .ok (.getfield 9, 3) := by decide +kernel
theorem dX3_standingAt_4 : decode cX3_standingAt 4 = .ok (.iload_n 1, 1) := by decide +kernel
theorem dX3_standingAt_5 : decode cX3_standingAt 5 = .ok (.bipush 10, 2) := by decide +kernel
theorem dX3_standingAt_7 : decode cX3_standingAt 7 = .ok (.imul, 1) := by decide +kernel
theorem dX3_standingAt_8 : decode cX3_standingAt 8 = .ok (.iload_n 2, 1) := by decide +kernel
theorem dX3_standingAt_9 : decode cX3_standingAt 9 = .ok (.iadd, 1) := by decide +kernel
theorem dX3_standingAt_10 : decode cX3_standingAt 10 = .ok (.invokestatic 18, 3) := by decide +kernel
theorem dX3_standingAt_13 : decode cX3_standingAt 13 = .ok (.ireturn, 1) := by decide +kernel
set_option maxRecDepth 20000 in
theorem ggX3_enter_X5_at : GoodIn wsX3_enter wsX5_at := goodIn_r _ [5] (by decide +kernel) (by decide +kernel)
set_option maxRecDepth 20000 in
theorem gX3_enter_X5_at_n18 : GoodIn wsX3_enter (wsX5_at) := ggX3_enter_X5_at
set_option maxRecDepth 20000 in
theorem ggX3_enter_X5_put : GoodIn wsX3_enter wsX5_put := goodIn_r _ [7] (by decide +kernel) (by decide +kernel)
set_option maxRecDepth 20000 in
theorem gX3_enter_X5_put_n22 : GoodIn wsX3_enter (wsX5_put) := ggX3_enter_X5_put
theorem dX3_enter_0 : decode cX3_enter 0 = .ok (.aload_n 0, 1) := by decide +kernel
theorem dX3_enter_1 : decode cX3_enter 1 = .ok (.getfield 15, 3) := by decide +kernel
theorem dX3_enter_4 : decode cX3_enter 4 = .ok (.iload_n 2, 1) := by decide +kernel
theorem dX3_enter_5 : decode cX3_enter 5 = .ok (.invokestatic 18, 3) := by decide +kernel
theorem dX3_enter_8 : decode cX3_enter 8 = .ok (.istore_n 3, 1) := by decide +kernel
theorem dX3_enter_9 : decode cX3_enter 9 = .ok (.aload_n 0, 1) := by decide +kernel
theorem dX3_enter_10 : decode cX3_enter 10 = .ok (.getfield 9, 3) := by decide +kernel
theorem dX3_enter_13 : decode cX3_enter 13 = .ok (.iload_n 2, 1) := by decide +kernel
theorem dX3_enter_14 : decode cX3_enter 14 = .ok (.bipush 10, 2) := by decide +kernel
theorem dX3_enter_16 : decode cX3_enter 16 = .ok (.imul, 1) := by decide +kernel
theorem dX3_enter_17 : decode cX3_enter 17 = .ok (.iload_n 3, 1) := by decide +kernel
theorem dX3_enter_18 : decode cX3_enter 18 = .ok (.iadd, 1) := by decide +kernel
theorem dX3_enter_19 : decode cX3_enter 19 = .ok (.iload_n 1, 1) := by decide +kernel
theorem dX3_enter_20 : decode cX3_enter 20 = .ok (.invokestatic 22, 3) := by decide +kernel
theorem dX3_enter_23 : decode cX3_enter 23 = .ok (.aload_n 0, 1) := by decide +kernel
theorem dX3_enter_24 : decode cX3_enter 24 = .ok (.getfield 15, 3) := by decide +kernel
theorem dX3_enter_27 : decode cX3_enter 27 = .ok (.iload_n 2, 1) := by decide +kernel
theorem dX3_enter_28 : decode cX3_enter 28 = .ok (.iload_n 3, 1) := by decide +kernel
theorem dX3_enter_29 : decode cX3_enter 29 = .ok (.iconst 1, 1) := by decide +kernel
theorem dX3_enter_30 : decode cX3_enter 30 = .ok (.iadd, 1) := by decide +kernel
theorem dX3_enter_31 : decode cX3_enter 31 = .ok (.invokestatic 22, 3) := by decide +kernel
theorem dX3_enter_34 : decode cX3_enter 34 = .ok (.iload_n 3, 1) := by decide +kernel
theorem dX3_enter_35 : decode cX3_enter 35 = .ok (.ireturn, 1) := by decide +kernel
set_option maxRecDepth 20000 in
theorem ggX3_takeFirst_X5_at : GoodIn wsX3_takeFirst wsX5_at := goodIn_r _ [5] (by decide +kernel) (by decide +kernel)
set_option maxRecDepth 20000 in
theorem gX3_takeFirst_X5_at_n18 : GoodIn wsX3_takeFirst (wsX5_at) := ggX3_takeFirst_X5_at
set_option maxRecDepth 20000 in
theorem ggX3_takeFirst_X3_standingAt : GoodIn wsX3_takeFirst wsX3_standingAt := goodIn_r _ [10, 2, 3, 4, 5, 13, 14] (by decide +kernel) (by decide +kernel)
set_option maxRecDepth 20000 in
theorem gX3_takeFirst_X3_standingAt : GoodIn wsX3_takeFirst (wsV RX3 26 RX3 yX3_standingAt wsX3_standingAt) := goodIn_app (goodIn_of _ (by decide +kernel)) ggX3_takeFirst_X3_standingAt
set_option maxRecDepth 20000 in
theorem ggX3_takeFirst_X5_put : GoodIn wsX3_takeFirst wsX5_put := goodIn_r _ [12] (by decide +kernel) (by decide +kernel)
set_option maxRecDepth 20000 in
theorem gX3_takeFirst_X5_put_n22 : GoodIn wsX3_takeFirst (wsX5_put) := ggX3_takeFirst_X5_put
theorem dX3_takeFirst_0 : decode cX3_takeFirst 0 = .ok (.aload_n 0, 1) := by decide +kernel
theorem dX3_takeFirst_1 : decode cX3_takeFirst 1 = .ok (.getfield 15, 3) := by decide +kernel
theorem dX3_takeFirst_4 : decode cX3_takeFirst 4 = .ok (.iload_n 1, 1) := by decide +kernel
theorem dX3_takeFirst_5 : decode cX3_takeFirst 5 = .ok (.invokestatic 18, 3) := by decide +kernel
theorem dX3_takeFirst_8 : decode cX3_takeFirst 8 = .ok (.istore_n 2, 1) := by decide +kernel
theorem dX3_takeFirst_9 : decode cX3_takeFirst 9 = .ok (.iload_n 2, 1) := by decide +kernel
theorem dX3_takeFirst_10 : decode cX3_takeFirst 10 = .ok (.ifCond .gt 5, 3) := by decide +kernel
theorem dX3_takeFirst_13 : decode cX3_takeFirst 13 = .ok (.iconst (-1), 1) := by decide +kernel
theorem dX3_takeFirst_14 : decode cX3_takeFirst 14 = .ok (.ireturn, 1) := by decide +kernel
theorem dX3_takeFirst_15 : decode cX3_takeFirst 15 = .ok (.aload_n 0, 1) := by decide +kernel
theorem dX3_takeFirst_16 : decode cX3_takeFirst 16 = .ok (.iload_n 1, 1) := by decide +kernel
theorem dX3_takeFirst_17 : decode cX3_takeFirst 17 = .ok (.iconst 0, 1) := by decide +kernel
theorem dX3_takeFirst_18 : decode cX3_takeFirst 18 = .ok (.invokevirtual 26, 3) := by decide +kernel
theorem dX3_takeFirst_21 : decode cX3_takeFirst 21 = .ok (.istore_n 3, 1) := by decide +kernel
theorem dX3_takeFirst_22 : decode cX3_takeFirst 22 = .ok (.iconst 0, 1) := by decide +kernel
theorem dX3_takeFirst_23 : decode cX3_takeFirst 23 = .ok (.istore 4, 2) := by decide +kernel
theorem dX3_takeFirst_25 : decode cX3_takeFirst 25 = .ok (.iload 4, 2) := by decide +kernel
theorem dX3_takeFirst_27 : decode cX3_takeFirst 27 = .ok (.iconst 1, 1) := by decide +kernel
theorem dX3_takeFirst_28 : decode cX3_takeFirst 28 = .ok (.iadd, 1) := by decide +kernel
theorem dX3_takeFirst_29 : decode cX3_takeFirst 29 = .ok (.iload_n 2, 1) := by decide +kernel
theorem dX3_takeFirst_30 : decode cX3_takeFirst 30 = .ok (.if_icmp .ge 32, 3) := by decide +kernel
theorem dX3_takeFirst_33 : decode cX3_takeFirst 33 = .ok (.aload_n 0, 1) := by decide +kernel
theorem dX3_takeFirst_34 : decode cX3_takeFirst 34 = .ok (.getfield 9, 3) := by decide +kernel
theorem dX3_takeFirst_37 : decode cX3_takeFirst 37 = .ok (.iload_n 1, 1) := by decide +kernel
theorem dX3_takeFirst_38 : decode cX3_takeFirst 38 = .ok (.bipush 10, 2) := by decide +kernel
theorem dX3_takeFirst_40 : decode cX3_takeFirst 40 = .ok (.imul, 1) := by decide +kernel
theorem dX3_takeFirst_41 : decode cX3_takeFirst 41 = .ok (.iload 4, 2) := by decide +kernel
theorem dX3_takeFirst_43 : decode cX3_takeFirst 43 = .ok (.iadd, 1) := by decide +kernel
theorem dX3_takeFirst_44 : decode cX3_takeFirst 44 = .ok (.aload_n 0, 1) := by decide +kernel
theorem dX3_takeFirst_45 : decode cX3_takeFirst 45 = .ok (.iload_n 1, 1) := by decide +kernel
theorem dX3_takeFirst_46 : decode cX3_takeFirst 46 = .ok (.iload 4, 2) := by decide +kernel
theorem dX3_takeFirst_48 : decode cX3_takeFirst 48 = .ok (.iconst 1, 1) := by decide +kernel
theorem dX3_takeFirst_49 : decode cX3_takeFirst 49 = .ok (.iadd, 1) := by decide +kernel
theorem dX3_takeFirst_50 : decode cX3_takeFirst 50 = .ok (.invokevirtual 26, 3) := by decide +kernel
theorem dX3_takeFirst_53 : decode cX3_takeFirst 53 = .ok (.invokestatic 22, 3) := by decide +kernel
theorem dX3_takeFirst_56 : decode cX3_takeFirst 56 = .ok (.iinc 4 1, 3) := by decide +kernel
theorem dX3_takeFirst_59 : decode cX3_takeFirst 59 = .ok (.goto (-34), 3) := by decide +kernel
theorem dX3_takeFirst_62 : decode cX3_takeFirst 62 = .ok (.aload_n 0, 1) := by decide +kernel
theorem dX3_takeFirst_63 : decode cX3_takeFirst 63 = .ok (.getfield 15, 3) := by decide +kernel
theorem dX3_takeFirst_66 : decode cX3_takeFirst 66 = .ok (.iload_n 1, 1) := by decide +kernel
theorem dX3_takeFirst_67 : decode cX3_takeFirst 67 = .ok (.iload_n 2, 1) := by decide +kernel
theorem dX3_takeFirst_68 : decode cX3_takeFirst 68 = .ok (.iconst 1, 1) := by decide +kernel
theorem dX3_takeFirst_69 : decode cX3_takeFirst 69 = .ok (.isub, 1) := by decide +kernel
theorem dX3_takeFirst_70 : decode cX3_takeFirst 70 = .ok (.invokestatic 22, 3) := by decide +kernel
theorem dX3_takeFirst_73 : decode cX3_takeFirst 73 = .ok (.iload_n 3, 1) := by decide +kernel
theorem dX3_takeFirst_74 : decode cX3_takeFirst 74 = .ok (.ireturn, 1) := by decide +kernel
set_option maxRecDepth 20000 in
theorem ggX3_spotOf_X5_at : GoodIn wsX3_spotOf wsX5_at := goodIn_r _ [5] (by decide +kernel) (by decide +kernel)
set_option maxRecDepth 20000 in
theorem gX3_spotOf_X5_at_n18 : GoodIn wsX3_spotOf (wsX5_at) := ggX3_spotOf_X5_at
theorem dX3_spotOf_0 : decode cX3_spotOf 0 = .ok (.iconst 0, 1) := by decide +kernel
theorem dX3_spotOf_1 : decode cX3_spotOf 1 = .ok (.istore_n 2, 1) := by decide +kernel
theorem dX3_spotOf_2 : decode cX3_spotOf 2 = .ok (.iload_n 2, 1) := by decide +kernel
theorem dX3_spotOf_3 : decode cX3_spotOf 3 = .ok (.iconst 3, 1) := by decide +kernel
theorem dX3_spotOf_4 : decode cX3_spotOf 4 = .ok (.if_icmp .ge 57, 3) := by decide +kernel
theorem dX3_spotOf_7 : decode cX3_spotOf 7 = .ok (.iload_n 2, 1) := by decide +kernel
theorem dX3_spotOf_8 : decode cX3_spotOf 8 = .ok (.bipush 10, 2) := by decide +kernel
theorem dX3_spotOf_10 : decode cX3_spotOf 10 = .ok (.imul, 1) := by decide +kernel
theorem dX3_spotOf_11 : decode cX3_spotOf 11 = .ok (.aload_n 0, 1) := by decide +kernel
theorem dX3_spotOf_12 : decode cX3_spotOf 12 = .ok (.getfield 15, 3) := by decide +kernel
theorem dX3_spotOf_15 : decode cX3_spotOf 15 = .ok (.iload_n 2, 1) := by decide +kernel
theorem dX3_spotOf_16 : decode cX3_spotOf 16 = .ok (.invokestatic 18, 3) := by decide +kernel
theorem dX3_spotOf_19 : decode cX3_spotOf 19 = .ok (.iadd, 1) := by decide +kernel
theorem dX3_spotOf_20 : decode cX3_spotOf 20 = .ok (.istore_n 3, 1) := by decide +kernel
theorem dX3_spotOf_21 : decode cX3_spotOf 21 = .ok (.iload_n 2, 1) := by decide +kernel
theorem dX3_spotOf_22 : decode cX3_spotOf 22 = .ok (.bipush 10, 2) := by decide +kernel
theorem dX3_spotOf_24 : decode cX3_spotOf 24 = .ok (.imul, 1) := by decide +kernel
theorem dX3_spotOf_25 : decode cX3_spotOf 25 = .ok (.istore 4, 2) := by decide +kernel
theorem dX3_spotOf_27 : decode cX3_spotOf 27 = .ok (.iload 4, 2) := by decide +kernel
theorem dX3_spotOf_29 : decode cX3_spotOf 29 = .ok (.iload_n 3, 1) := by decide +kernel
theorem dX3_spotOf_30 : decode cX3_spotOf 30 = .ok (.if_icmp .ge 25, 3) := by decide +kernel
theorem dX3_spotOf_33 : decode cX3_spotOf 33 = .ok (.aload_n 0, 1) := by decide +kernel
theorem dX3_spotOf_34 : decode cX3_spotOf 34 = .ok (.getfield 9, 3) := by decide +kernel
theorem dX3_spotOf_37 : decode cX3_spotOf 37 = .ok (.iload 4, 2) := by decide +kernel
theorem dX3_spotOf_39 : decode cX3_spotOf 39 = .ok (.invokestatic 18, 3) := by decide +kernel
theorem dX3_spotOf_42 : decode cX3_spotOf 42 = .ok (.iload_n 1, 1) := by decide +kernel
theorem dX3_spotOf_43 : decode cX3_spotOf 43 = .ok (.if_icmp .ne 6, 3) := by decide +kernel
theorem dX3_spotOf_46 : decode cX3_spotOf 46 = .ok (.iload 4, 2) := by decide +kernel
theorem dX3_spotOf_48 : decode cX3_spotOf 48 = .ok (.ireturn, 1) := by decide +kernel
theorem dX3_spotOf_49 : decode cX3_spotOf 49 = .ok (.iinc 4 1, 3) := by decide +kernel
theorem dX3_spotOf_52 : decode cX3_spotOf 52 = .ok (.goto (-25), 3) := by decide +kernel
theorem dX3_spotOf_55 : decode cX3_spotOf 55 = .ok (.iinc 2 1, 3) := by decide +kernel
theorem dX3_spotOf_58 : decode cX3_spotOf 58 = .ok (.goto (-56), 3) := by decide +kernel
theorem dX3_spotOf_61 : decode cX3_spotOf 61 = .ok (.iconst (-1), 1) := by decide +kernel
theorem dX3_spotOf_62 : decode cX3_spotOf 62 = .ok (.ireturn, 1) := by decide +kernel
set_option maxRecDepth 20000 in
theorem ggX3_gateOf_X3_spotOf : GoodIn wsX3_gateOf wsX3_spotOf := goodIn_r _ [5, 6, 7, 8, 9, 10, 11, 12] (by decide +kernel) (by decide +kernel)
set_option maxRecDepth 20000 in
theorem gX3_gateOf_X3_spotOf : GoodIn wsX3_gateOf (wsV RX3 30 RX3 yX3_spotOf wsX3_spotOf) := goodIn_app (goodIn_of _ (by decide +kernel)) ggX3_gateOf_X3_spotOf
theorem dX3_gateOf_0 : decode cX3_gateOf 0 = .ok (.aload_n 0, 1) := by decide +kernel
theorem dX3_gateOf_1 : decode cX3_gateOf 1 = .ok (.iload_n 1, 1) := by decide +kernel
theorem dX3_gateOf_2 : decode cX3_gateOf 2 = .ok (.invokevirtual 30, 3) := by decide +kernel
theorem dX3_gateOf_5 : decode cX3_gateOf 5 = .ok (.istore_n 2, 1) := by decide +kernel
theorem dX3_gateOf_6 : decode cX3_gateOf 6 = .ok (.iload_n 2, 1) := by decide +kernel
theorem dX3_gateOf_7 : decode cX3_gateOf 7 = .ok (.iconst (-1), 1) := by decide +kernel
theorem dX3_gateOf_8 : decode cX3_gateOf 8 = .ok (.if_icmp .ne 7, 3) := by decide +kernel
theorem dX3_gateOf_11 : decode cX3_gateOf 11 = .ok (.iconst (-1), 1) := by decide +kernel
theorem dX3_gateOf_12 : decode cX3_gateOf 12 = .ok (.goto 7, 3) := by decide +kernel
theorem dX3_gateOf_15 : decode cX3_gateOf 15 = .ok (.iload_n 2, 1) := by decide +kernel
theorem dX3_gateOf_16 : decode cX3_gateOf 16 = .ok (.bipush 10, 2) := by decide +kernel
theorem dX3_gateOf_18 : decode cX3_gateOf 18 = .ok (.idiv, 1) := by decide +kernel
theorem dX3_gateOf_19 : decode cX3_gateOf 19 = .ok (.ireturn, 1) := by decide +kernel
set_option maxRecDepth 20000 in
theorem ggX3_placeOf_X3_spotOf : GoodIn wsX3_placeOf wsX3_spotOf := goodIn_r _ [5, 6, 7, 8, 9, 10, 11, 12] (by decide +kernel) (by decide +kernel)
set_option maxRecDepth 20000 in
theorem gX3_placeOf_X3_spotOf : GoodIn wsX3_placeOf (wsV RX3 30 RX3 yX3_spotOf wsX3_spotOf) := goodIn_app (goodIn_of _ (by decide +kernel)) ggX3_placeOf_X3_spotOf
theorem dX3_placeOf_0 : decode cX3_placeOf 0 = .ok (.aload_n 0, 1) := by decide +kernel
theorem dX3_placeOf_1 : decode cX3_placeOf 1 = .ok (.iload_n 1, 1) := by decide +kernel
theorem dX3_placeOf_2 : decode cX3_placeOf 2 = .ok (.invokevirtual 30, 3) := by decide +kernel
theorem dX3_placeOf_5 : decode cX3_placeOf 5 = .ok (.istore_n 2, 1) := by decide +kernel
theorem dX3_placeOf_6 : decode cX3_placeOf 6 = .ok (.iload_n 2, 1) := by decide +kernel
theorem dX3_placeOf_7 : decode cX3_placeOf 7 = .ok (.iconst (-1), 1) := by decide +kernel
theorem dX3_placeOf_8 : decode cX3_placeOf 8 = .ok (.if_icmp .ne 7, 3) := by decide +kernel
theorem dX3_placeOf_11 : decode cX3_placeOf 11 = .ok (.iconst (-1), 1) := by decide +kernel
theorem dX3_placeOf_12 : decode cX3_placeOf 12 = .ok (.goto 7, 3) := by decide +kernel
theorem dX3_placeOf_15 : decode cX3_placeOf 15 = .ok (.iload_n 2, 1) := by decide +kernel
theorem dX3_placeOf_16 : decode cX3_placeOf 16 = .ok (.bipush 10, 2) := by decide +kernel
theorem dX3_placeOf_18 : decode cX3_placeOf 18 = .ok (.irem, 1) := by decide +kernel
theorem dX3_placeOf_19 : decode cX3_placeOf 19 = .ok (.ireturn, 1) := by decide +kernel
set_option maxRecDepth 20000 in
theorem ggX3_renumberWithout_X5_at : GoodIn wsX3_renumberWithout wsX5_at := goodIn_r _ [4] (by decide +kernel) (by decide +kernel)
set_option maxRecDepth 20000 in
theorem gX3_renumberWithout_X5_at_n18 : GoodIn wsX3_renumberWithout (wsX5_at) := ggX3_renumberWithout_X5_at
set_option maxRecDepth 20000 in
theorem ggX3_renumberWithout_X1_numberWithout : GoodIn wsX3_renumberWithout wsX1_numberWithout := goodIn_r _ [7] (by decide +kernel) (by decide +kernel)
set_option maxRecDepth 20000 in
theorem gX3_renumberWithout_X1_numberWithout_n34 : GoodIn wsX3_renumberWithout (wsX1_numberWithout) := ggX3_renumberWithout_X1_numberWithout
set_option maxRecDepth 20000 in
theorem ggX3_renumberWithout_X5_put : GoodIn wsX3_renumberWithout wsX5_put := goodIn_r _ [9] (by decide +kernel) (by decide +kernel)
set_option maxRecDepth 20000 in
theorem gX3_renumberWithout_X5_put_n22 : GoodIn wsX3_renumberWithout (wsX5_put) := ggX3_renumberWithout_X5_put
theorem dX3_renumberWithout_0 : decode cX3_renumberWithout 0 = .ok (.iconst 0, 1) := by decide +kernel
theorem dX3_renumberWithout_1 : decode cX3_renumberWithout 1 = .ok (.istore_n 2, 1) := by decide +kernel
theorem dX3_renumberWithout_2 : decode cX3_renumberWithout 2 = .ok (.iload_n 2, 1) := by decide +kernel
theorem dX3_renumberWithout_3 : decode cX3_renumberWithout 3 = .ok (.aload_n 0, 1) := by decide +kernel
theorem dX3_renumberWithout_4 : decode cX3_renumberWithout 4 = .ok (.getfield 9, 3) := by decide +kernel
theorem dX3_renumberWithout_7 : decode cX3_renumberWithout 7 = .ok (.arraylength, 1) := by decide +kernel
theorem dX3_renumberWithout_8 : decode cX3_renumberWithout 8 = .ok (.if_icmp .ge 29, 3) := by decide +kernel
theorem dX3_renumberWithout_11 : decode cX3_renumberWithout 11 = .ok (.aload_n 0, 1) := by decide +kernel
theorem dX3_renumberWithout_12 : decode cX3_renumberWithout 12 = .ok (.getfield 9, 3) := by decide +kernel
theorem dX3_renumberWithout_15 : decode cX3_renumberWithout 15 = .ok (.iload_n 2, 1) := by decide +kernel
theorem dX3_renumberWithout_16 : decode cX3_renumberWithout 16 = .ok (.iload_n 1, 1) := by decide +kernel
theorem dX3_renumberWithout_17 : decode cX3_renumberWithout 17 = .ok (.aload_n 0, 1) := by decide +kernel
theorem dX3_renumberWithout_18 : decode cX3_renumberWithout 18 = .ok (.getfield 9, 3) := by decide +kernel
theorem dX3_renumberWithout_21 : decode cX3_renumberWithout 21 = .ok (.iload_n 2, 1) := by decide +kernel
theorem dX3_renumberWithout_22 : decode cX3_renumberWithout 22 = .ok (.invokestatic 18, 3) := by decide +kernel
theorem dX3_renumberWithout_25 : decode cX3_renumberWithout 25 = .ok (.invokestatic 34, 3) := by decide +kernel
theorem dX3_renumberWithout_28 : decode cX3_renumberWithout 28 = .ok (.invokestatic 22, 3) := by decide +kernel
theorem dX3_renumberWithout_31 : decode cX3_renumberWithout 31 = .ok (.iinc 2 1, 3) := by decide +kernel
theorem dX3_renumberWithout_34 : decode cX3_renumberWithout 34 = .ok (.goto (-32), 3) := by decide +kernel
theorem dX3_renumberWithout_37 : decode cX3_renumberWithout 37 = .ok (.return_, 1) := by decide +kernel
set_option maxRecDepth 20000 in
theorem ggX3_sendAllAway_X5_put : GoodIn wsX3_sendAllAway wsX5_put := goodIn_r _ [4] (by decide +kernel) (by decide +kernel)
set_option maxRecDepth 20000 in
theorem gX3_sendAllAway_X5_put_n22 : GoodIn wsX3_sendAllAway (wsX5_put) := ggX3_sendAllAway_X5_put
theorem dX3_sendAllAway_0 : decode cX3_sendAllAway 0 = .ok (.iconst 0, 1) := by decide +kernel
theorem dX3_sendAllAway_1 : decode cX3_sendAllAway 1 = .ok (.istore_n 1, 1) := by decide +kernel
theorem dX3_sendAllAway_2 : decode cX3_sendAllAway 2 = .ok (.iload_n 1, 1) := by decide +kernel
theorem dX3_sendAllAway_3 : decode cX3_sendAllAway 3 = .ok (.iconst 3, 1) := by decide +kernel
theorem dX3_sendAllAway_4 : decode cX3_sendAllAway 4 = .ok (.if_icmp .ge 18, 3) := by decide +kernel
theorem dX3_sendAllAway_7 : decode cX3_sendAllAway 7 = .ok (.aload_n 0, 1) := by decide +kernel
theorem dX3_sendAllAway_8 : decode cX3_sendAllAway 8 = .ok (.getfield 15, 3) := by decide +kernel
theorem dX3_sendAllAway_11 : decode cX3_sendAllAway 11 = .ok (.iload_n 1, 1) := by decide +kernel
theorem dX3_sendAllAway_12 : decode cX3_sendAllAway 12 = .ok (.iconst 0, 1) := by decide +kernel
theorem dX3_sendAllAway_13 : decode cX3_sendAllAway 13 = .ok (.invokestatic 22, 3) := by decide +kernel
theorem dX3_sendAllAway_16 : decode cX3_sendAllAway 16 = .ok (.iinc 1 1, 3) := by decide +kernel
theorem dX3_sendAllAway_19 : decode cX3_sendAllAway 19 = .ok (.goto (-17), 3) := by decide +kernel
theorem dX3_sendAllAway_22 : decode cX3_sendAllAway 22 = .ok (.return_, 1) := by decide +kernel
set_option maxRecDepth 20000 in
theorem ggX3_copyLines_X5_copyRow : GoodIn wsX3_copyLines wsX5_copyRow := goodIn_r _ [5, 6, 7, 8, 9, 10, 11, 12, 13] (by decide +kernel) (by decide +kernel)
set_option maxRecDepth 20000 in
theorem gX3_copyLines_X5_copyRow_n39 : GoodIn wsX3_copyLines (wsX5_copyRow) := ggX3_copyLines_X5_copyRow
theorem dX3_copyLines_0 : decode cX3_copyLines 0 = .ok (.aload_n 1, 1) := by decide +kernel
theorem dX3_copyLines_1 : decode cX3_copyLines 1 = .ok (.getfield 9, 3) := by decide +kernel
theorem dX3_copyLines_4 : decode cX3_copyLines 4 = .ok (.aload_n 0, 1) := by decide +kernel
theorem dX3_copyLines_5 : decode cX3_copyLines 5 = .ok (.getfield 9, 3) := by decide +kernel
theorem dX3_copyLines_8 : decode cX3_copyLines 8 = .ok (.invokestatic 39, 3) := by decide +kernel
theorem dX3_copyLines_11 : decode cX3_copyLines 11 = .ok (.aload_n 1, 1) := by decide +kernel
theorem dX3_copyLines_12 : decode cX3_copyLines 12 = .ok (.getfield 15, 3) := by decide +kernel
theorem dX3_copyLines_15 : decode cX3_copyLines 15 = .ok (.aload_n 0, 1) := by decide +kernel
theorem dX3_copyLines_16 : decode cX3_copyLines 16 = .ok (.getfield 15, 3) := by decide +kernel
theorem dX3_copyLines_19 : decode cX3_copyLines 19 = .ok (.invokestatic 39, 3) := by decide +kernel
theorem dX3_copyLines_22 : decode cX3_copyLines 22 = .ok (.return_, 1) := by decide +kernel
theorem dX4_init_0 : decode cX4_init 0 = .ok (.aload_n 0, 1) := by decide +kernel
theorem dX4_init_1 : decode cX4_init 1 = .ok (.invokespecial 3, 3) := by decide +kernel
theorem dX4_init_4 : decode cX4_init 4 = .ok (.aload_n 0, 1) := by decide +kernel
theorem dX4_init_5 : decode cX4_init 5 = .ok (.bipush 60, 2) := by decide +kernel
theorem dX4_init_7 : decode cX4_init 7 = .ok (.newarray .int, 2) := by decide +kernel
theorem dX4_init_9 : decode cX4_init 9 = .ok (.putfield 9, 3) := by decide +kernel
theorem dX4_init_12 : decode cX4_init 12 = .ok (.return_, 1) := by decide +kernel
set_option maxRecDepth 20000 in
theorem ggX4_write_X5_put : GoodIn wsX4_write wsX5_put := goodIn_r _ [5] (by decide +kernel) (by decide +kernel)
set_option maxRecDepth 20000 in
theorem gX4_write_X5_put_n19 : GoodIn wsX4_write (wsX5_put) := ggX4_write_X5_put
theorem dX4_write_0 : decode cX4_write 0 = .ok (.aload_n 0, 1) := by decide +kernel
theorem dX4_write_1 : decode cX4_write 1 = .ok (.getfield 9, 3) := by decide +kernel
theorem dX4_write_4 : decode cX4_write 4 = .ok (.aload_n 0, 1) := by decide +kernel
theorem dX4_write_5 : decode cX4_write 5 = .ok (.getfield 15, 3) := by decide +kernel
theorem dX4_write_8 : decode cX4_write 8 = .ok (.iload_n 1, 1) := by decide +kernel
theorem dX4_write_9 : decode cX4_write 9 = .ok (.invokestatic 19, 3) := by decide +kernel
theorem dX4_write_12 : decode cX4_write 12 = .ok (.aload_n 0, 1) := by decide +kernel
theorem dX4_write_13 : decode cX4_write 13 = .ok (.dup, 1) := by decide +kernel
theorem dX4_write_14 : decode cX4_write 14 = .ok (.getfield 15, 3) := by decide +kernel
theorem dX4_write_17 : decode cX4_write 17 = .ok (.iconst 1, 1) := by decide +kernel
theorem dX4_write_18 : decode cX4_write 18 = .ok (.iadd, 1) := by decide +kernel
theorem dX4_write_19 : decode cX4_write 19 = .ok (.putfield 15, 3) := by decide +kernel
theorem dX4_write_22 : decode cX4_write 22 = .ok (.return_, 1) := by decide +kernel
set_option maxRecDepth 20000 in
theorem ggX4_signAt_X5_at : GoodIn wsX4_signAt wsX5_at := goodIn_r _ [5] (by decide +kernel) (by decide +kernel)
set_option maxRecDepth 20000 in
theorem gX4_signAt_X5_at_n23 : GoodIn wsX4_signAt (wsX5_at) := ggX4_signAt_X5_at
theorem dX4_signAt_0 : decode cX4_signAt 0 = .ok (.iload_n 1, 1) := by decide +kernel
theorem dX4_signAt_1 : decode cX4_signAt 1 = .ok (.aload_n 0, 1) := by decide +kernel
theorem dX4_signAt_2 : decode cX4_signAt 2 = .ok (.getfield 15, 3) := by decide +kernel
theorem dX4_signAt_5 : decode cX4_signAt 5 = .ok (.if_icmp .ge 14, 3) := by decide +kernel
theorem dX4_signAt_8 : decode cX4_signAt 8 = .ok (.aload_n 0, 1) := by decide +kernel
theorem dX4_signAt_9 : decode cX4_signAt 9 = .ok (.getfield 9, 3) := by decide +kernel
theorem dX4_signAt_12 : decode cX4_signAt 12 = .ok (.iload_n 1, 1) := by decide +kernel
theorem dX4_signAt_13 : decode cX4_signAt 13 = .ok (.invokestatic 23, 3) := by decide +kernel
theorem dX4_signAt_16 : decode cX4_signAt 16 = .ok (.goto 4, 3) := by decide +kernel
theorem dX4_signAt_19 : decode cX4_signAt 19 = .ok (.iconst 0, 1) := by decide +kernel
theorem dX4_signAt_20 : decode cX4_signAt 20 = .ok (.ireturn, 1) := by decide +kernel
set_option maxRecDepth 20000 in
theorem ggX4_digitAt_X4_signAt : GoodIn wsX4_digitAt wsX4_signAt := goodIn_r _ [5, 6, 7, 8, 9, 10, 13, 14] (by decide +kernel) (by decide +kernel)
set_option maxRecDepth 20000 in
theorem gX4_digitAt_X4_signAt : GoodIn wsX4_digitAt (wsV RX4 27 RX4 yX4_signAt wsX4_signAt) := goodIn_app (goodIn_of _ (by decide +kernel)) ggX4_digitAt_X4_signAt
set_option maxRecDepth 20000 in
theorem ggX4_digitAt_X5_isWithin : GoodIn wsX4_digitAt wsX5_isWithin := goodIn_r _ [12] (by decide +kernel) (by decide +kernel)
set_option maxRecDepth 20000 in
theorem gX4_digitAt_X5_isWithin_n31 : GoodIn wsX4_digitAt (wsX5_isWithin) := ggX4_digitAt_X5_isWithin
theorem dX4_digitAt_0 : decode cX4_digitAt 0 = .ok (.aload_n 0, 1) := by decide +kernel
theorem dX4_digitAt_1 : decode cX4_digitAt 1 = .ok (.iload_n 1, 1) := by decide +kernel
theorem dX4_digitAt_2 : decode cX4_digitAt 2 = .ok (.invokevirtual 27, 3) := by decide +kernel
theorem dX4_digitAt_5 : decode cX4_digitAt 5 = .ok (.istore_n 2, 1) := by decide +kernel
theorem dX4_digitAt_6 : decode cX4_digitAt 6 = .ok (.iload_n 2, 1) := by decide +kernel
theorem dX4_digitAt_7 : decode cX4_digitAt 7 = .ok (.bipush 48, 2) := by decide +kernel
theorem dX4_digitAt_9 : decode cX4_digitAt 9 = .ok (.bipush 57, 2) := by decide +kernel
theorem dX4_digitAt_11 : decode cX4_digitAt 11 = .ok (.invokestatic 31, 3) := by decide +kernel
theorem dX4_digitAt_14 : decode cX4_digitAt 14 = .ok (.ifCond .eq 10, 3) := by decide +kernel
theorem dX4_digitAt_17 : decode cX4_digitAt 17 = .ok (.iload_n 2, 1) := by decide +kernel
theorem dX4_digitAt_18 : decode cX4_digitAt 18 = .ok (.bipush 48, 2) := by decide +kernel
theorem dX4_digitAt_20 : decode cX4_digitAt 20 = .ok (.isub, 1) := by decide +kernel
theorem dX4_digitAt_21 : decode cX4_digitAt 21 = .ok (.goto 4, 3) := by decide +kernel
theorem dX4_digitAt_24 : decode cX4_digitAt 24 = .ok (.iconst (-1), 1) := by decide +kernel
theorem dX4_digitAt_25 : decode cX4_digitAt 25 = .ok (.ireturn, 1) := by decide +kernel
set_option maxRecDepth 20000 in
theorem ggX4_isPartAt_X4_signAt : GoodIn wsX4_isPartAt wsX4_signAt := goodIn_r _ [5, 6, 7, 8, 9, 10, 11, 12] (by decide +kernel) (by decide +kernel)
set_option maxRecDepth 20000 in
theorem gX4_isPartAt_X4_signAt : GoodIn wsX4_isPartAt (wsV RX4 27 RX4 yX4_signAt wsX4_signAt) := goodIn_app (goodIn_of _ (by decide +kernel)) ggX4_isPartAt_X4_signAt
theorem dX4_isPartAt_0 : decode cX4_isPartAt 0 = .ok (.iload_n 1, 1) := by decide +kernel
theorem dX4_isPartAt_1 : decode cX4_isPartAt 1 = .ok (.ifCond .eq 15, 3) := by decide +kernel
theorem dX4_isPartAt_4 : decode cX4_isPartAt 4 = .ok (.aload_n 0, 1) := by decide +kernel
theorem dX4_isPartAt_5 : decode cX4_isPartAt 5 = .ok (.iload_n 1, 1) := by decide +kernel
theorem dX4_isPartAt_6 : decode cX4_isPartAt 6 = .ok (.iconst 1, 1) := by decide +kernel
theorem dX4_isPartAt_7 : decode cX4_isPartAt 7 = .ok (.isub, 1) := by decide +kernel
theorem dX4_isPartAt_8 : decode cX4_isPartAt 8 = .ok (.invokevirtual 27, 3) := by decide +kernel
theorem dX4_isPartAt_11 : decode cX4_isPartAt 11 = .ok (.bipush 59, 2) := by decide +kernel
theorem dX4_isPartAt_13 : decode cX4_isPartAt 13 = .ok (.if_icmp .ne 7, 3) := by decide +kernel
theorem dX4_isPartAt_16 : decode cX4_isPartAt 16 = .ok (.iconst 1, 1) := by decide +kernel
theorem dX4_isPartAt_17 : decode cX4_isPartAt 17 = .ok (.goto 4, 3) := by decide +kernel
theorem dX4_isPartAt_20 : decode cX4_isPartAt 20 = .ok (.iconst 0, 1) := by decide +kernel
theorem dX4_isPartAt_21 : decode cX4_isPartAt 21 = .ok (.ireturn, 1) := by decide +kernel
set_option maxRecDepth 20000 in
theorem ggX4_timesAt_X4_signAt : GoodIn wsX4_timesAt wsX4_signAt := goodIn_r _ [5, 6, 7, 8, 9, 10, 17, 18] (by decide +kernel) (by decide +kernel)
set_option maxRecDepth 20000 in
theorem gX4_timesAt_X4_signAt : GoodIn wsX4_timesAt (wsV RX4 27 RX4 yX4_signAt wsX4_signAt) := goodIn_app (goodIn_of _ (by decide +kernel)) ggX4_timesAt_X4_signAt
set_option maxRecDepth 20000 in
theorem ggX4_timesAt_X4_digitAt : GoodIn wsX4_timesAt wsX4_digitAt := goodIn_r _ [14, 1, 2, 3, 4, 5, 6, 7, 8, 9, 10, 15, 16, 17, 18] (by decide +kernel) (by decide +kernel)
set_option maxRecDepth 20000 in
theorem gX4_timesAt_X4_digitAt : GoodIn wsX4_timesAt (wsV RX4 35 RX4 yX4_digitAt wsX4_digitAt) := goodIn_app (goodIn_of _ (by decide +kernel)) ggX4_timesAt_X4_digitAt
theorem dX4_timesAt_0 : decode cX4_timesAt 0 = .ok (.aload_n 0, 1) := by decide +kernel
theorem dX4_timesAt_1 : decode cX4_timesAt 1 = .ok (.iload_n 1, 1) := by decide +kernel
theorem dX4_timesAt_2 : decode cX4_timesAt 2 = .ok (.invokevirtual 27, 3) := by decide +kernel
theorem dX4_timesAt_5 : decode cX4_timesAt 5 = .ok (.bipush 42, 2) := by decide +kernel
theorem dX4_timesAt_7 : decode cX4_timesAt 7 = .ok (.if_icmp .eq 5, 3) := by decide +kernel
theorem dX4_timesAt_10 : decode cX4_timesAt 10 = .ok (.iconst 1, 1) := by decide +kernel
theorem dX4_timesAt_11 : decode cX4_timesAt 11 = .ok (.ireturn, 1) := by decide +kernel
theorem dX4_timesAt_12 : decode cX4_timesAt 12 = .ok (.aload_n 0, 1) := by decide +kernel
theorem dX4_timesAt_13 : decode cX4_timesAt 13 = .ok (.iload_n 1, 1) := by decide +kernel
theorem dX4_timesAt_14 : decode cX4_timesAt 14 = .ok (.iconst 2, 1) := by decide +kernel
theorem dX4_timesAt_15 : decode cX4_timesAt 15 = .ok (.iadd, 1) := by decide +kernel
theorem dX4_timesAt_16 : decode cX4_timesAt 16 = .ok (.invokevirtual 27, 3) := by decide +kernel
theorem dX4_timesAt_19 : decode cX4_timesAt 19 = .ok (.bipush 48, 2) := by decide +kernel
theorem dX4_timesAt_21 : decode cX4_timesAt 21 = .ok (.if_icmp .ne 8, 3) := by decide +kernel
theorem dX4_timesAt_24 : decode cX4_timesAt 24 = .ok (.bipush 10, 2) := by decide +kernel
theorem dX4_timesAt_26 : decode cX4_timesAt 26 = .ok (.goto 10, 3) := by decide +kernel
theorem dX4_timesAt_29 : decode cX4_timesAt 29 = .ok (.aload_n 0, 1) := by decide +kernel
theorem dX4_timesAt_30 : decode cX4_timesAt 30 = .ok (.iload_n 1, 1) := by decide +kernel
theorem dX4_timesAt_31 : decode cX4_timesAt 31 = .ok (.iconst 1, 1) := by decide +kernel
theorem dX4_timesAt_32 : decode cX4_timesAt 32 = .ok (.iadd, 1) := by decide +kernel
theorem dX4_timesAt_33 : decode cX4_timesAt 33 = .ok (.invokevirtual 35, 3) := by decide +kernel
theorem dX4_timesAt_36 : decode cX4_timesAt 36 = .ok (.ireturn, 1) := by decide +kernel
set_option maxRecDepth 20000 in
theorem ggX4_firstWrong_X4_signAt : GoodIn wsX4_firstWrong wsX4_signAt := goodIn_r _ [6, 1, 7, 8, 9, 10, 25, 26] (by decide +kernel) (by decide +kernel)
set_option maxRecDepth 20000 in
theorem gX4_firstWrong_X4_signAt : GoodIn wsX4_firstWrong (wsV RX4 27 RX4 yX4_signAt wsX4_signAt) := goodIn_app (goodIn_of _ (by decide +kernel)) ggX4_firstWrong_X4_signAt
set_option maxRecDepth 20000 in
theorem ggX4_firstWrong_X4_expectedBehind : GoodIn wsX4_firstWrong wsX4_expectedBehind := goodIn_r _ [13, 14, 9, 15, 16, 17, 5, 18, 19, 20, 21, 22, 23, 24] (by decide +kernel) (by decide +kernel)
set_option maxRecDepth 20000 in
theorem gX4_firstWrong_X4_expectedBehind : GoodIn wsX4_firstWrong (va_wsS RX4 38 yX4_expectedBehind wsX4_expectedBehind) := goodIn_app (goodIn_of _ (by decide +kernel)) ggX4_firstWrong_X4_expectedBehind
theorem dX4_firstWrong_0 : decode cX4_firstWrong 0 = .ok (.iconst 1, 1) := by decide +kernel
theorem dX4_firstWrong_1 : decode cX4_firstWrong 1 = .ok (.istore_n 1, 1) := by decide +kernel
theorem dX4_firstWrong_2 : decode cX4_firstWrong 2 = .ok (.iconst 0, 1) := by decide +kernel
theorem dX4_firstWrong_3 : decode cX4_firstWrong 3 = .ok (.istore_n 2, 1) := by decide +kernel
theorem dX4_firstWrong_4 : decode cX4_firstWrong 4 = .ok (.iload_n 2, 1) := by decide +kernel
theorem dX4_firstWrong_5 : decode cX4_firstWrong 5 = .ok (.aload_n 0, 1) := by decide +kernel
theorem dX4_firstWrong_6 : decode cX4_firstWrong 6 = .ok (.getfield 15, 3) := by decide +kernel
theorem dX4_firstWrong_9 : decode cX4_firstWrong 9 = .ok (.if_icmp .ge 25, 3) := by decide +kernel
theorem dX4_firstWrong_12 : decode cX4_firstWrong 12 = .ok (.iload_n 1, 1) := by decide +kernel
theorem dX4_firstWrong_13 : decode cX4_firstWrong 13 = .ok (.aload_n 0, 1) := by decide +kernel
theorem dX4_firstWrong_14 : decode cX4_firstWrong 14 = .ok (.iload_n 2, 1) := by decide +kernel
theorem dX4_firstWrong_15 : decode cX4_firstWrong 15 = .ok (.invokevirtual 27, 3) := by decide +kernel
theorem dX4_firstWrong_18 : decode cX4_firstWrong 18 = .ok (.invokestatic 38, 3) := by decide +kernel
theorem dX4_firstWrong_21 : decode cX4_firstWrong 21 = .ok (.istore_n 1, 1) := by decide +kernel
theorem dX4_firstWrong_22 : decode cX4_firstWrong 22 = .ok (.iload_n 1, 1) := by decide +kernel
theorem dX4_firstWrong_23 : decode cX4_firstWrong 23 = .ok (.ifCond .ne 5, 3) := by decide +kernel
theorem dX4_firstWrong_26 : decode cX4_firstWrong 26 = .ok (.iload_n 2, 1) := by decide +kernel
theorem dX4_firstWrong_27 : decode cX4_firstWrong 27 = .ok (.ireturn, 1) := by decide +kernel
theorem dX4_firstWrong_28 : decode cX4_firstWrong 28 = .ok (.iinc 2 1, 3) := by decide +kernel
theorem dX4_firstWrong_31 : decode cX4_firstWrong 31 = .ok (.goto (-27), 3) := by decide +kernel
theorem dX4_firstWrong_34 : decode cX4_firstWrong 34 = .ok (.aload_n 0, 1) := by decide +kernel
theorem dX4_firstWrong_35 : decode cX4_firstWrong 35 = .ok (.getfield 15, 3) := by decide +kernel
theorem dX4_firstWrong_38 : decode cX4_firstWrong 38 = .ok (.ireturn, 1) := by decide +kernel
set_option maxRecDepth 20000 in
theorem ggX4_isComplete_X4_signAt : GoodIn wsX4_isComplete wsX4_signAt := goodIn_r _ [6, 1, 7, 8, 9, 10, 25, 26] (by decide +kernel) (by decide +kernel)
set_option maxRecDepth 20000 in
theorem gX4_isComplete_X4_signAt : GoodIn wsX4_isComplete (wsV RX4 27 RX4 yX4_signAt wsX4_signAt) := goodIn_app (goodIn_of _ (by decide +kernel)) ggX4_isComplete_X4_signAt
set_option maxRecDepth 20000 in
theorem ggX4_isComplete_X4_expectedBehind : GoodIn wsX4_isComplete wsX4_expectedBehind := goodIn_r _ [13, 14, 9, 15, 16, 17, 5, 18, 19, 20, 21, 22, 23, 24] (by decide +kernel) (by decide +kernel)
set_option maxRecDepth 20000 in
theorem gX4_isComplete_X4_expectedBehind : GoodIn wsX4_isComplete (va_wsS RX4 38 yX4_expectedBehind wsX4_expectedBehind) := goodIn_app (goodIn_of _ (by decide +kernel)) ggX4_isComplete_X4_expectedBehind
theorem dX4_isComplete_0 : decode cX4_isComplete 0 = .ok (.iconst 1, 1) := by decide +kernel
theorem dX4_isComplete_1 : decode cX4_isComplete 1 = .ok (.istore_n 1, 1) := by decide +kernel
theorem dX4_isComplete_2 : decode cX4_isComplete 2 = .ok (.iconst 0, 1) := by decide +kernel
theorem dX4_isComplete_3 : decode cX4_isComplete 3 = .ok (.istore_n 2, 1) := by decide +kernel
theorem dX4_isComplete_4 : decode cX4_isComplete 4 = .ok (.iload_n 2, 1) := by decide +kernel
theorem dX4_isComplete_5 : decode cX4_isComplete 5 = .ok (.aload_n 0, 1) := by decide +kernel
theorem dX4_isComplete_6 : decode cX4_isComplete 6 = .ok (.getfield 15, 3) := by decide +kernel
theorem dX4_isComplete_9 : decode cX4_isComplete 9 = .ok (.if_icmp .ge 19, 3) := by decide +kernel
theorem dX4_isComplete_12 : decode cX4_isComplete 12 = .ok (.iload_n 1, 1) := by decide +kernel
theorem dX4_isComplete_13 : decode cX4_isComplete 13 = .ok (.aload_n 0, 1) := by decide +kernel
theorem dX4_isComplete_14 : decode cX4_isComplete 14 = .ok (.iload_n 2, 1) := by decide +kernel
theorem dX4_isComplete_15 : decode cX4_isComplete 15 = .ok (.invokevirtual 27, 3) := by decide +kernel
theorem dX4_isComplete_18 : decode cX4_isComplete 18 = .ok (.invokestatic 38, 3) := by decide +kernel
theorem dX4_isComplete_21 : decode cX4_isComplete 21 = .ok (.istore_n 1, 1) := by decide +kernel
theorem dX4_isComplete_22 : decode cX4_isComplete 22 = .ok (.iinc 2 1, 3) := by decide +kernel
theorem dX4_isComplete_25 : decode cX4_isComplete 25 = .ok (.goto (-21), 3) := by decide +kernel
theorem dX4_isComplete_28 : decode cX4_isComplete 28 = .ok (.iload_n 1, 1) := by decide +kernel
theorem dX4_isComplete_29 : decode cX4_isComplete 29 = .ok (.bipush 12, 2) := by decide +kernel
theorem dX4_isComplete_31 : decode cX4_isComplete 31 = .ok (.if_icmp .eq 15, 3) := by decide +kernel
theorem dX4_isComplete_34 : decode cX4_isComplete 34 = .ok (.iload_n 1, 1) := by decide +kernel
theorem dX4_isComplete_35 : decode cX4_isComplete 35 = .ok (.bipush 6, 2) := by decide +kernel
theorem dX4_isComplete_37 : decode cX4_isComplete 37 = .ok (.if_icmp .eq 9, 3) := by decide +kernel
theorem dX4_isComplete_40 : decode cX4_isComplete 40 = .ok (.iload_n 1, 1) := by decide +kernel
theorem dX4_isComplete_41 : decode cX4_isComplete 41 = .ok (.bipush 8, 2) := by decide +kernel
theorem dX4_isComplete_43 : decode cX4_isComplete 43 = .ok (.if_icmp .ne 7, 3) := by decide +kernel
theorem dX4_isComplete_46 : decode cX4_isComplete 46 = .ok (.iconst 1, 1) := by decide +kernel
theorem dX4_isComplete_47 : decode cX4_isComplete 47 = .ok (.goto 4, 3) := by decide +kernel
theorem dX4_isComplete_50 : decode cX4_isComplete 50 = .ok (.iconst 0, 1) := by decide +kernel
theorem dX4_isComplete_51 : decode cX4_isComplete 51 = .ok (.ireturn, 1) := by decide +kernel
set_option maxRecDepth 20000 in
theorem ggX4_expectedBehind_X5_isWithin : GoodIn wsX4_expectedBehind wsX5_isWithin := goodIn_r _ [3] (by decide +kernel) (by decide +kernel)
set_option maxRecDepth 20000 in
theorem gX4_expectedBehind_X5_isWithin_n31 : GoodIn wsX4_expectedBehind (wsX5_isWithin) := ggX4_expectedBehind_X5_isWithin
set_option maxRecDepth 20000 in
theorem ggX4_expectedBehind_X4_expectedInPart : GoodIn wsX4_expectedBehind wsX4_expectedInPart := goodIn_r _ [7] (by decide +kernel) (by decide +kernel)
set_option maxRecDepth 20000 in
theorem gX4_expectedBehind_X4_expectedInPart : GoodIn wsX4_expectedBehind (va_wsS RX4 42 yX4_expectedInPart wsX4_expectedInPart) := goodIn_app (goodIn_of _ (by decide +kernel)) ggX4_expectedBehind_X4_expectedInPart
set_option maxRecDepth 20000 in
theorem ggX4_expectedBehind_X4_expectedBehindPart : GoodIn wsX4_expectedBehind wsX4_expectedBehindPart := goodIn_r _ [10] (by decide +kernel) (by decide +kernel)
set_option maxRecDepth 20000 in
theorem gX4_expectedBehind_X4_expectedBehindPart : GoodIn wsX4_expectedBehind (va_wsS RX4 45 yX4_expectedBehindPart wsX4_expectedBehindPart) := goodIn_app (goodIn_of _ (by decide +kernel)) ggX4_expectedBehind_X4_expectedBehindPart
set_option maxRecDepth 20000 in
theorem ggX4_expectedBehind_X4_expectedBehindTimes : GoodIn wsX4_expectedBehind wsX4_expectedBehindTimes := goodIn_r _ [13, 1, 2, 3] (by decide +kernel) (by decide +kernel)
set_option maxRecDepth 20000 in
theorem gX4_expectedBehind_X4_expectedBehindTimes : GoodIn wsX4_expectedBehind (va_wsS RX4 48 yX4_expectedBehindTimes wsX4_expectedBehindTimes) := goodIn_app (goodIn_of _ (by decide +kernel)) ggX4_expectedBehind_X4_expectedBehindTimes
theorem dX4_expectedBehind_0 : decode cX4_expectedBehind 0 = .ok (.iload_n 1, 1) := by decide +kernel
theorem dX4_expectedBehind_1 : decode cX4_expectedBehind 1 = .ok (.bipush 48, 2) := by decide +kernel
theorem dX4_expectedBehind_3 : decode cX4_expectedBehind 3 = .ok (.bipush 57, 2) := by decide +kernel
theorem dX4_expectedBehind_5 : decode cX4_expectedBehind 5 = .ok (.invokestatic 31, 3) := by decide +kernel
theorem dX4_expectedBehind_8 : decode cX4_expectedBehind 8 = .ok (.istore_n 2, 1) := by decide +kernel
theorem dX4_expectedBehind_9 : decode cX4_expectedBehind 9 = .ok (.iload_n 1, 1) := by decide +kernel
theorem dX4_expectedBehind_10 : decode cX4_expectedBehind 10 = .ok (.bipush 48, 2) := by decide +kernel
theorem dX4_expectedBehind_12 : decode cX4_expectedBehind 12 = .ok (.bipush 50, 2) := by decide +kernel
theorem dX4_expectedBehind_14 : decode cX4_expectedBehind 14 = .ok (.invokestatic 31, 3) := by decide +kernel
theorem dX4_expectedBehind_17 : decode cX4_expectedBehind 17 = .ok (.istore_n 3, 1) := by decide +kernel
theorem dX4_expectedBehind_18 : decode cX4_expectedBehind 18 = .ok (.iload_n 0, 1) := by decide +kernel
theorem dX4_expectedBehind_19 : decode cX4_expectedBehind 19 = .ok (.tableswitch 187 1 12 #[61, 66, 76, 88, 99, 110, 126, 131, 147, 158, 171, 182], 61) := by decide +kernel
theorem dX4_expectedBehind_80 : decode cX4_expectedBehind 80 = .ok (.iload_n 1, 1) := by decide +kernel
theorem dX4_expectedBehind_81 : decode cX4_expectedBehind 81 = .ok (.invokestatic 42, 3) := by decide +kernel
theorem dX4_expectedBehind_84 : decode cX4_expectedBehind 84 = .ok (.ireturn, 1) := by decide +kernel
theorem dX4_expectedBehind_85 : decode cX4_expectedBehind 85 = .ok (.iload_n 2, 1) := by decide +kernel
theorem dX4_expectedBehind_86 : decode cX4_expectedBehind 86 = .ok (.ifCond .eq 7, 3) := by decide +kernel
theorem dX4_expectedBehind_89 : decode cX4_expectedBehind 89 = .ok (.iconst 3, 1) := by decide +kernel
theorem dX4_expectedBehind_90 : decode cX4_expectedBehind 90 = .ok (.goto 4, 3) := by decide +kernel
theorem dX4_expectedBehind_93 : decode cX4_expectedBehind 93 = .ok (.iconst 0, 1) := by decide +kernel
theorem dX4_expectedBehind_94 : decode cX4_expectedBehind 94 = .ok (.ireturn, 1) := by decide +kernel
theorem dX4_expectedBehind_95 : decode cX4_expectedBehind 95 = .ok (.iload_n 1, 1) := by decide +kernel
theorem dX4_expectedBehind_96 : decode cX4_expectedBehind 96 = .ok (.bipush 62, 2) := by decide +kernel
theorem dX4_expectedBehind_98 : decode cX4_expectedBehind 98 = .ok (.if_icmp .ne 7, 3) := by decide +kernel
theorem dX4_expectedBehind_101 : decode cX4_expectedBehind 101 = .ok (.iconst 4, 1) := by decide +kernel
theorem dX4_expectedBehind_102 : decode cX4_expectedBehind 102 = .ok (.goto 4, 3) := by decide +kernel
theorem dX4_expectedBehind_105 : decode cX4_expectedBehind 105 = .ok (.iconst 0, 1) := by decide +kernel
theorem dX4_expectedBehind_106 : decode cX4_expectedBehind 106 = .ok (.ireturn, 1) := by decide +kernel
theorem dX4_expectedBehind_107 : decode cX4_expectedBehind 107 = .ok (.iload_n 3, 1) := by decide +kernel
theorem dX4_expectedBehind_108 : decode cX4_expectedBehind 108 = .ok (.ifCond .eq 8, 3) := by decide +kernel
theorem dX4_expectedBehind_111 : decode cX4_expectedBehind 111 = .ok (.bipush 12, 2) := by decide +kernel
theorem dX4_expectedBehind_113 : decode cX4_expectedBehind 113 = .ok (.goto 4, 3) := by decide +kernel
theorem dX4_expectedBehind_116 : decode cX4_expectedBehind 116 = .ok (.iconst 0, 1) := by decide +kernel
theorem dX4_expectedBehind_117 : decode cX4_expectedBehind 117 = .ok (.ireturn, 1) := by decide +kernel
theorem dX4_expectedBehind_118 : decode cX4_expectedBehind 118 = .ok (.iload_n 3, 1) := by decide +kernel
theorem dX4_expectedBehind_119 : decode cX4_expectedBehind 119 = .ok (.ifCond .eq 8, 3) := by decide +kernel
theorem dX4_expectedBehind_122 : decode cX4_expectedBehind 122 = .ok (.bipush 6, 2) := by decide +kernel
theorem dX4_expectedBehind_124 : decode cX4_expectedBehind 124 = .ok (.goto 4, 3) := by decide +kernel
theorem dX4_expectedBehind_127 : decode cX4_expectedBehind 127 = .ok (.iconst 0, 1) := by decide +kernel
theorem dX4_expectedBehind_128 : decode cX4_expectedBehind 128 = .ok (.ireturn, 1) := by decide +kernel
theorem dX4_expectedBehind_129 : decode cX4_expectedBehind 129 = .ok (.iload_n 1, 1) := by decide +kernel
theorem dX4_expectedBehind_130 : decode cX4_expectedBehind 130 = .ok (.bipush 42, 2) := by decide +kernel
theorem dX4_expectedBehind_132 : decode cX4_expectedBehind 132 = .ok (.if_icmp .ne 8, 3) := by decide +kernel
theorem dX4_expectedBehind_135 : decode cX4_expectedBehind 135 = .ok (.bipush 7, 2) := by decide +kernel
theorem dX4_expectedBehind_137 : decode cX4_expectedBehind 137 = .ok (.goto 7, 3) := by decide +kernel
theorem dX4_expectedBehind_140 : decode cX4_expectedBehind 140 = .ok (.iload_n 1, 1) := by decide +kernel
theorem dX4_expectedBehind_141 : decode cX4_expectedBehind 141 = .ok (.invokestatic 45, 3) := by decide +kernel
theorem dX4_expectedBehind_144 : decode cX4_expectedBehind 144 = .ok (.ireturn, 1) := by decide +kernel
theorem dX4_expectedBehind_145 : decode cX4_expectedBehind 145 = .ok (.iload_n 1, 1) := by decide +kernel
theorem dX4_expectedBehind_146 : decode cX4_expectedBehind 146 = .ok (.invokestatic 48, 3) := by decide +kernel
theorem dX4_expectedBehind_149 : decode cX4_expectedBehind 149 = .ok (.ireturn, 1) := by decide +kernel
theorem dX4_expectedBehind_150 : decode cX4_expectedBehind 150 = .ok (.iload_n 1, 1) := by decide +kernel
theorem dX4_expectedBehind_151 : decode cX4_expectedBehind 151 = .ok (.bipush 48, 2) := by decide +kernel
theorem dX4_expectedBehind_153 : decode cX4_expectedBehind 153 = .ok (.if_icmp .ne 8, 3) := by decide +kernel
theorem dX4_expectedBehind_156 : decode cX4_expectedBehind 156 = .ok (.bipush 12, 2) := by decide +kernel
theorem dX4_expectedBehind_158 : decode cX4_expectedBehind 158 = .ok (.goto 7, 3) := by decide +kernel
theorem dX4_expectedBehind_161 : decode cX4_expectedBehind 161 = .ok (.iload_n 1, 1) := by decide +kernel
theorem dX4_expectedBehind_162 : decode cX4_expectedBehind 162 = .ok (.invokestatic 45, 3) := by decide +kernel
theorem dX4_expectedBehind_165 : decode cX4_expectedBehind 165 = .ok (.ireturn, 1) := by decide +kernel
theorem dX4_expectedBehind_166 : decode cX4_expectedBehind 166 = .ok (.iload_n 2, 1) := by decide +kernel
theorem dX4_expectedBehind_167 : decode cX4_expectedBehind 167 = .ok (.ifCond .eq 8, 3) := by decide +kernel
theorem dX4_expectedBehind_170 : decode cX4_expectedBehind 170 = .ok (.bipush 10, 2) := by decide +kernel
theorem dX4_expectedBehind_172 : decode cX4_expectedBehind 172 = .ok (.goto 4, 3) := by decide +kernel
theorem dX4_expectedBehind_175 : decode cX4_expectedBehind 175 = .ok (.iconst 0, 1) := by decide +kernel
theorem dX4_expectedBehind_176 : decode cX4_expectedBehind 176 = .ok (.ireturn, 1) := by decide +kernel
theorem dX4_expectedBehind_177 : decode cX4_expectedBehind 177 = .ok (.iload_n 1, 1) := by decide +kernel
theorem dX4_expectedBehind_178 : decode cX4_expectedBehind 178 = .ok (.bipush 62, 2) := by decide +kernel
theorem dX4_expectedBehind_180 : decode cX4_expectedBehind 180 = .ok (.if_icmp .ne 8, 3) := by decide +kernel
theorem dX4_expectedBehind_183 : decode cX4_expectedBehind 183 = .ok (.bipush 11, 2) := by decide +kernel
theorem dX4_expectedBehind_185 : decode cX4_expectedBehind 185 = .ok (.goto 4, 3) := by decide +kernel
theorem dX4_expectedBehind_188 : decode cX4_expectedBehind 188 = .ok (.iconst 0, 1) := by decide +kernel
theorem dX4_expectedBehind_189 : decode cX4_expectedBehind 189 = .ok (.ireturn, 1) := by decide +kernel
theorem dX4_expectedBehind_190 : decode cX4_expectedBehind 190 = .ok (.iload_n 2, 1) := by decide +kernel
theorem dX4_expectedBehind_191 : decode cX4_expectedBehind 191 = .ok (.ifCond .eq 8, 3) := by decide +kernel
theorem dX4_expectedBehind_194 : decode cX4_expectedBehind 194 = .ok (.bipush 12, 2) := by decide +kernel
theorem dX4_expectedBehind_196 : decode cX4_expectedBehind 196 = .ok (.goto 4, 3) := by decide +kernel
theorem dX4_expectedBehind_199 : decode cX4_expectedBehind 199 = .ok (.iconst 0, 1) := by decide +kernel
theorem dX4_expectedBehind_200 : decode cX4_expectedBehind 200 = .ok (.ireturn, 1) := by decide +kernel
theorem dX4_expectedBehind_201 : decode cX4_expectedBehind 201 = .ok (.iload_n 1, 1) := by decide +kernel
theorem dX4_expectedBehind_202 : decode cX4_expectedBehind 202 = .ok (.invokestatic 45, 3) := by decide +kernel
theorem dX4_expectedBehind_205 : decode cX4_expectedBehind 205 = .ok (.ireturn, 1) := by decide +kernel
theorem dX4_expectedBehind_206 : decode cX4_expectedBehind 206 = .ok (.iconst 0, 1) := by decide +kernel
theorem dX4_expectedBehind_207 : decode cX4_expectedBehind 207 = .ok (.ireturn, 1) := by decide +kernel
theorem dX4_expectedInPart_0 : decode cX4_expectedInPart 0 = .ok (.iload_n 0, 1) := by decide +kernel
theorem dX4_expectedInPart_1 : decode cX4_expectedInPart 1 = .ok (.lookupswitch 72 #[(36, 66), (94, 69), (108, 63), (109, 66), (111, 61), (113, 59)], 59) := by decide +kernel
theorem dX4_expectedInPart_60 : decode cX4_expectedInPart 60 = .ok (.iconst 2, 1) := by decide +kernel
theorem dX4_expectedInPart_61 : decode cX4_expectedInPart 61 = .ok (.ireturn, 1) := by decide +kernel
theorem dX4_expectedInPart_62 : decode cX4_expectedInPart 62 = .ok (.iconst 5, 1) := by decide +kernel
theorem dX4_expectedInPart_63 : decode cX4_expectedInPart 63 = .ok (.ireturn, 1) := by decide +kernel
theorem dX4_expectedInPart_64 : decode cX4_expectedInPart 64 = .ok (.bipush 9, 2) := by decide +kernel
theorem dX4_expectedInPart_66 : decode cX4_expectedInPart 66 = .ok (.ireturn, 1) := by decide +kernel
theorem dX4_expectedInPart_67 : decode cX4_expectedInPart 67 = .ok (.bipush 11, 2) := by decide +kernel
theorem dX4_expectedInPart_69 : decode cX4_expectedInPart 69 = .ok (.ireturn, 1) := by decide +kernel
theorem dX4_expectedInPart_70 : decode cX4_expectedInPart 70 = .ok (.bipush 12, 2) := by decide +kernel
theorem dX4_expectedInPart_72 : decode cX4_expectedInPart 72 = .ok (.ireturn, 1) := by decide +kernel
theorem dX4_expectedInPart_73 : decode cX4_expectedInPart 73 = .ok (.iconst 0, 1) := by decide +kernel
theorem dX4_expectedInPart_74 : decode cX4_expectedInPart 74 = .ok (.ireturn, 1) := by decide +kernel
set_option maxRecDepth 20000 in
theorem ggX4_expectedBehindTimes_X5_isWithin : GoodIn wsX4_expectedBehindTimes wsX5_isWithin := goodIn_r _ [3] (by decide +kernel) (by decide +kernel)
set_option maxRecDepth 20000 in
theorem gX4_expectedBehindTimes_X5_isWithin_n31 : GoodIn wsX4_expectedBehindTimes (wsX5_isWithin) := ggX4_expectedBehindTimes_X5_isWithin
theorem dX4_expectedBehindTimes_0 : decode cX4_expectedBehindTimes 0 = .ok (.iload_n 0, 1) := by decide +kernel
theorem dX4_expectedBehindTimes_1 : decode cX4_expectedBehindTimes 1 = .ok (.bipush 49, 2) := by decide +kernel
theorem dX4_expectedBehindTimes_3 : decode cX4_expectedBehindTimes 3 = .ok (.if_icmp .ne 6, 3) := by decide +kernel
theorem dX4_expectedBehindTimes_6 : decode cX4_expectedBehindTimes 6 = .ok (.bipush 8, 2) := by decide +kernel
theorem dX4_expectedBehindTimes_8 : decode cX4_expectedBehindTimes 8 = .ok (.ireturn, 1) := by decide +kernel
theorem dX4_expectedBehindTimes_9 : decode cX4_expectedBehindTimes 9 = .ok (.iload_n 0, 1) := by decide +kernel
theorem dX4_expectedBehindTimes_10 : decode cX4_expectedBehindTimes 10 = .ok (.bipush 50, 2) := by decide +kernel
theorem dX4_expectedBehindTimes_12 : decode cX4_expectedBehindTimes 12 = .ok (.bipush 57, 2) := by decide +kernel
theorem dX4_expectedBehindTimes_14 : decode cX4_expectedBehindTimes 14 = .ok (.invokestatic 31, 3) := by decide +kernel
theorem dX4_expectedBehindTimes_17 : decode cX4_expectedBehindTimes 17 = .ok (.ifCond .eq 8, 3) := by decide +kernel
theorem dX4_expectedBehindTimes_20 : decode cX4_expectedBehindTimes 20 = .ok (.bipush 12, 2) := by decide +kernel
theorem dX4_expectedBehindTimes_22 : decode cX4_expectedBehindTimes 22 = .ok (.goto 4, 3) := by decide +kernel
theorem dX4_expectedBehindTimes_25 : decode cX4_expectedBehindTimes 25 = .ok (.iconst 0, 1) := by decide +kernel
theorem dX4_expectedBehindTimes_26 : decode cX4_expectedBehindTimes 26 = .ok (.ireturn, 1) := by decide +kernel
theorem dX4_expectedBehindPart_0 : decode cX4_expectedBehindPart 0 = .ok (.iload_n 0, 1) := by decide +kernel
theorem dX4_expectedBehindPart_1 : decode cX4_expectedBehindPart 1 = .ok (.bipush 59, 2) := by decide +kernel
theorem dX4_expectedBehindPart_3 : decode cX4_expectedBehindPart 3 = .ok (.if_icmp .ne 7, 3) := by decide +kernel
theorem dX4_expectedBehindPart_6 : decode cX4_expectedBehindPart 6 = .ok (.iconst 1, 1) := by decide +kernel
theorem dX4_expectedBehindPart_7 : decode cX4_expectedBehindPart 7 = .ok (.goto 4, 3) := by decide +kernel
theorem dX4_expectedBehindPart_10 : decode cX4_expectedBehindPart 10 = .ok (.iconst 0, 1) := by decide +kernel
theorem dX4_expectedBehindPart_11 : decode cX4_expectedBehindPart 11 = .ok (.ireturn, 1) := by decide +kernel
set_option maxRecDepth 20000 in
theorem ggX5_init_X0_init : GoodIn wsX5_init wsX0_init := goodIn_r _ [19, 20, 2, 3, 21, 22, 23, 24, 25, 26, 27, 28, 29, 30, 31, 32, 33, 34, 35, 36, 37, 38, 39, 40, 41, 42, 43, 44, 45, 46, 47, 48, 49, 50, 51, 52, 53, 54, 55, 56, 57, 58, 59, 91, 92, 93, 94, 95, 96, 97, 98, 99, 69, 70, 71, 72, 73, 74, 75, 76, 77, 78, 79, 80, 100, 101] (by decide +kernel) (by decide +kernel)
set_option maxRecDepth 20000 in
theorem gX5_init_X0_init_n9 : GoodIn wsX5_init (wsX0_init) := ggX5_init_X0_init
set_option maxRecDepth 20000 in
theorem ggX5_init_X2_init : GoodIn wsX5_init wsX2_init := goodIn_r _ [61, 62, 2, 3, 63, 64, 5, 6, 18, 19, 20, 21, 22, 23, 24, 25, 26, 27, 28, 29, 30, 31, 32, 33, 34, 35, 36, 37, 38, 39, 40, 41, 42, 43, 44, 45, 46, 47, 48, 49, 50, 51, 52, 53, 54, 55, 56, 57, 58, 59, 86, 87, 88, 69, 70, 71, 72, 73, 74, 75, 76, 77, 78, 79, 80, 91, 92, 93, 94, 95, 96, 97, 98, 99, 100, 101] (by decide +kernel) (by decide +kernel)
set_option maxRecDepth 20000 in
theorem gX5_init_X2_init_n21 : GoodIn wsX5_init (wsX2_init) := ggX5_init_X2_init
set_option maxRecDepth 20000 in
theorem ggX5_init_X4_init : GoodIn wsX5_init wsX4_init := goodIn_r _ [66, 67, 2, 3, 29, 68, 89, 90] (by decide +kernel) (by decide +kernel)
set_option maxRecDepth 20000 in
theorem gX5_init_X4_init_n28 : GoodIn wsX5_init (wsX4_init) := ggX5_init_X4_init
theorem dX5_init_0 : decode cX5_init 0 = .ok (.aload_n 0, 1) := by decide +kernel
theorem dX5_init_1 : decode cX5_init 1 = .ok (.invokespecial 1, 3) := by decide +kernel
theorem dX5_init_4 : decode cX5_init 4 = .ok (.aload_n 0, 1) := by decide +kernel
theorem dX5_init_5 : decode cX5_init 5 = .ok (.new 7, 3) := by decide +kernel
theorem dX5_init_8 : decode cX5_init 8 = .ok (.dup, 1) := by decide +kernel
theorem dX5_init_9 : decode cX5_init 9 = .ok (.invokespecial 9, 3) := by decide +kernel
theorem dX5_init_12 : decode cX5_init 12 = .ok (.putfield 10, 3) := by decide +kernel
theorem dX5_init_15 : decode cX5_init 15 = .ok (.aload_n 0, 1) := by decide +kernel
theorem dX5_init_16 : decode cX5_init 16 = .ok (.new 7, 3) := by decide +kernel
theorem dX5_init_19 : decode cX5_init 19 = .ok (.dup, 1) := by decide +kernel
theorem dX5_init_20 : decode cX5_init 20 = .ok (.invokespecial 9, 3) := by decide +kernel
theorem dX5_init_23 : decode cX5_init 23 = .ok (.putfield 16, 3) := by decide +kernel
theorem dX5_init_26 : decode cX5_init 26 = .ok (.aload_n 0, 1) := by decide +kernel
theorem dX5_init_27 : decode cX5_init 27 = .ok (.new 19, 3) := by decide +kernel
theorem dX5_init_30 : decode cX5_init 30 = .ok (.dup, 1) := by decide +kernel
theorem dX5_init_31 : decode cX5_init 31 = .ok (.invokespecial 21, 3) := by decide +kernel
theorem dX5_init_34 : decode cX5_init 34 = .ok (.putfield 22, 3) := by decide +kernel
theorem dX5_init_37 : decode cX5_init 37 = .ok (.aload_n 0, 1) := by decide +kernel
theorem dX5_init_38 : decode cX5_init 38 = .ok (.new 26, 3) := by decide +kernel
theorem dX5_init_41 : decode cX5_init 41 = .ok (.dup, 1) := by decide +kernel
theorem dX5_init_42 : decode cX5_init 42 = .ok (.invokespecial 28, 3) := by decide +kernel
theorem dX5_init_45 : decode cX5_init 45 = .ok (.putfield 29, 3) := by decide +kernel
theorem dX5_init_48 : decode cX5_init 48 = .ok (.aload_n 0, 1) := by decide +kernel
theorem dX5_init_49 : decode cX5_init 49 = .ok (.iconst 0, 1) := by decide +kernel
theorem dX5_init_50 : decode cX5_init 50 = .ok (.putfield 33, 3) := by decide +kernel
theorem dX5_init_53 : decode cX5_init 53 = .ok (.return_, 1) := by decide +kernel
set_option maxRecDepth 20000 in
theorem ggX5_come_X5_isWithin : GoodIn wsX5_come wsX5_isWithin := goodIn_r _ [6] (by decide +kernel) (by decide +kernel)
set_option maxRecDepth 20000 in
theorem gX5_come_X5_isWithin : GoodIn wsX5_come (va_wsS RX5 37 yX5_isWithin wsX5_isWithin) := goodIn_app (goodIn_of _ (by decide +kernel)) ggX5_come_X5_isWithin
set_option maxRecDepth 20000 in
theorem ggX5_come_X5_needArgument : GoodIn wsX5_come wsX5_needArgument := goodIn_ca (goodIn_r _ [9, 10, 11] (by decide +kernel) (by decide +kernel)) (goodIn_sub (fun _ h => List.mem_cons_of_mem _ (List.mem_append_left _ (List.mem_append_right _ h))) (by decide +kernel))
set_option maxRecDepth 20000 in
theorem gX5_come_X5_needArgument : GoodIn wsX5_come (va_wsS RX5 41 yX5_needArgument wsX5_needArgument) := goodIn_app (goodIn_of _ (by decide +kernel)) ggX5_come_X5_needArgument
set_option maxRecDepth 20000 in
theorem ggX5_come_X5_needState : GoodIn wsX5_come wsX5_needState := goodIn_ca (goodIn_r _ [14, 15, 16] (by decide +kernel) (by decide +kernel)) (goodIn_sub (fun _ h => List.mem_cons_of_mem _ (List.mem_append_right _ h)) (by decide +kernel))
set_option maxRecDepth 20000 in
theorem gX5_come_X5_needState : GoodIn wsX5_come (va_wsS RX5 55 yX5_needState wsX5_needState) := goodIn_app (goodIn_of _ (by decide +kernel)) ggX5_come_X5_needState
set_option maxRecDepth 20000 in
theorem ggX5_come_X2_save : GoodIn wsX5_come wsX2_save := goodIn_r _ [20, 21, 22, 23, 24, 25, 18, 26, 27, 28, 29, 30, 31, 32, 33, 34, 35, 36, 37, 38, 39, 40, 41, 42, 43, 44, 45, 46, 47, 48, 49, 50, 51, 52, 53, 54, 55, 56, 57, 5, 58, 59, 60, 61, 62, 63, 64, 65, 66, 67, 68, 69, 70, 71, 72, 107, 108, 109, 86, 87, 88, 89, 90, 91, 92, 93, 94, 95, 96, 97, 98, 99, 100, 101, 102, 103, 104, 105, 106, 110, 111] (by decide +kernel) (by decide +kernel)
set_option maxRecDepth 20000 in
theorem gX5_come_X2_save_n58 : GoodIn wsX5_come (wsX2_save) := ggX5_come_X2_save
set_option maxRecDepth 20000 in
theorem ggX5_come_X0_welcome : GoodIn wsX5_come wsX0_welcome := goodIn_r _ [75, 38, 39, 32, 76, 45, 77, 78, 56, 48, 49, 50, 51, 52, 53, 54, 55, 79, 5, 80, 86, 87, 88, 89, 90, 91, 92, 93, 94, 95, 96, 97, 98, 99, 100, 101, 102, 103, 104, 105, 106] (by decide +kernel) (by decide +kernel)
set_option maxRecDepth 20000 in
theorem gX5_come_X0_welcome_n62 : GoodIn wsX5_come (wsX0_welcome) := ggX5_come_X0_welcome
theorem dX5_come_0 : decode cX5_come 0 = .ok (.iload_n 1, 1) := by decide +kernel
theorem dX5_come_1 : decode cX5_come 1 = .ok (.iconst 0, 1) := by decide +kernel
theorem dX5_come_2 : decode cX5_come 2 = .ok (.iconst 4, 1) := by decide +kernel
theorem dX5_come_3 : decode cX5_come 3 = .ok (.invokestatic 37, 3) := by decide +kernel
theorem dX5_come_6 : decode cX5_come 6 = .ok (.invokestatic 41, 3) := by decide +kernel
theorem dX5_come_9 : decode cX5_come 9 = .ok (.iload_n 2, 1) := by decide +kernel
theorem dX5_come_10 : decode cX5_come 10 = .ok (.iconst 0, 1) := by decide +kernel
theorem dX5_come_11 : decode cX5_come 11 = .ok (.bipush 40, 2) := by decide +kernel
theorem dX5_come_13 : decode cX5_come 13 = .ok (.invokestatic 37, 3) := by decide +kernel
theorem dX5_come_16 : decode cX5_come 16 = .ok (.invokestatic 41, 3) := by decide +kernel
theorem dX5_come_19 : decode cX5_come 19 = .ok (.iload_n 3, 1) := by decide +kernel
theorem dX5_come_20 : decode cX5_come 20 = .ok (.iconst 0, 1) := by decide +kernel
theorem dX5_come_21 : decode cX5_come 21 = .ok (.bipush 99, 2) := by decide +kernel
theorem dX5_come_23 : decode cX5_come 23 = .ok (.invokestatic 37, 3) := by decide +kernel
theorem dX5_come_26 : decode cX5_come 26 = .ok (.invokestatic 41, 3) := by decide +kernel
theorem dX5_come_29 : decode cX5_come 29 = .ok (.aload_n 0, 1) := by decide +kernel
theorem dX5_come_30 : decode cX5_come 30 = .ok (.getfield 10, 3) := by decide +kernel
theorem dX5_come_33 : decode cX5_come 33 = .ok (.getfield 45, 3) := by decide +kernel
theorem dX5_come_36 : decode cX5_come 36 = .ok (.getfield 49, 3) := by decide +kernel
theorem dX5_come_39 : decode cX5_come 39 = .ok (.bipush 10, 2) := by decide +kernel
theorem dX5_come_41 : decode cX5_come 41 = .ok (.if_icmp .ge 7, 3) := by decide +kernel
theorem dX5_come_44 : decode cX5_come 44 = .ok (.iconst 1, 1) := by decide +kernel
theorem dX5_come_45 : decode cX5_come 45 = .ok (.goto 4, 3) := by decide +kernel
theorem dX5_come_48 : decode cX5_come 48 = .ok (.iconst 0, 1) := by decide +kernel
theorem dX5_come_49 : decode cX5_come 49 = .ok (.invokestatic 55, 3) := by decide +kernel
theorem dX5_come_52 : decode cX5_come 52 = .ok (.aload_n 0, 1) := by decide +kernel
theorem dX5_come_53 : decode cX5_come 53 = .ok (.getfield 22, 3) := by decide +kernel
theorem dX5_come_56 : decode cX5_come 56 = .ok (.aload_n 0, 1) := by decide +kernel
theorem dX5_come_57 : decode cX5_come 57 = .ok (.getfield 10, 3) := by decide +kernel
theorem dX5_come_60 : decode cX5_come 60 = .ok (.invokevirtual 58, 3) := by decide +kernel
theorem dX5_come_63 : decode cX5_come 63 = .ok (.aload_n 0, 1) := by decide +kernel
theorem dX5_come_64 : decode cX5_come 64 = .ok (.getfield 10, 3) := by decide +kernel
theorem dX5_come_67 : decode cX5_come 67 = .ok (.iload_n 1, 1) := by decide +kernel
theorem dX5_come_68 : decode cX5_come 68 = .ok (.iload_n 2, 1) := by decide +kernel
theorem dX5_come_69 : decode cX5_come 69 = .ok (.iload_n 3, 1) := by decide +kernel
theorem dX5_come_70 : decode cX5_come 70 = .ok (.invokevirtual 62, 3) := by decide +kernel
theorem dX5_come_73 : decode cX5_come 73 = .ok (.ireturn, 1) := by decide +kernel
set_option maxRecDepth 20000 in
theorem ggX5_leave_X5_needGuest : GoodIn wsX5_leave wsX5_needGuest := goodIn_ca (goodIn_r _ [7, 8, 9, 1, 10, 11, 12, 13, 14, 110, 111, 112, 113, 114, 115, 116, 117, 118, 119, 120, 121, 122, 123, 124, 125, 126, 127, 128, 129, 130, 131, 132, 133, 134, 135] (by decide +kernel) (by decide +kernel)) (goodIn_sub (fun _ h => List.mem_cons_of_mem _ (List.mem_append_left _ (List.mem_append_right _ h))) (by decide +kernel))
set_option maxRecDepth 20000 in
theorem gX5_leave_X5_needGuest : GoodIn wsX5_leave (wsV RX5 66 RX5 yX5_needGuest wsX5_needGuest) := goodIn_app (goodIn_of _ (by decide +kernel)) ggX5_leave_X5_needGuest
set_option maxRecDepth 20000 in
theorem ggX5_leave_X0_canGo : GoodIn wsX5_leave wsX0_canGo := goodIn_r _ [18, 19, 20, 21, 11, 22, 23, 24, 25, 26, 6, 27, 28, 29, 30, 31, 32, 33, 34, 35, 36, 37, 38, 39, 40, 41, 115, 116, 117, 118, 119, 120, 121, 122, 123, 124, 125, 126, 127, 128, 129, 130, 131, 132, 133, 134, 135, 136, 137] (by decide +kernel) (by decide +kernel)
set_option maxRecDepth 20000 in
theorem gX5_leave_X0_canGo_n70 : GoodIn wsX5_leave (wsX0_canGo) := ggX5_leave_X0_canGo
set_option maxRecDepth 20000 in
theorem ggX5_leave_X5_needState : GoodIn wsX5_leave wsX5_needState := goodIn_ca (goodIn_r _ [44, 45, 46] (by decide +kernel) (by decide +kernel)) (goodIn_sub (fun _ h => List.mem_cons_of_mem _ (List.mem_append_right _ h)) (by decide +kernel))
set_option maxRecDepth 20000 in
theorem gX5_leave_X5_needState : GoodIn wsX5_leave (va_wsS RX5 55 yX5_needState wsX5_needState) := goodIn_app (goodIn_of _ (by decide +kernel)) ggX5_leave_X5_needState
set_option maxRecDepth 20000 in
theorem ggX5_leave_X2_save : GoodIn wsX5_leave wsX2_save := goodIn_r _ [50, 51, 52, 53, 54, 55, 48, 56, 57, 58, 16, 59, 60, 19, 20, 61, 62, 63, 64, 65, 66, 67, 68, 69, 70, 71, 11, 72, 73, 74, 75, 76, 77, 24, 25, 78, 31, 14, 79, 6, 80, 81, 82, 83, 84, 85, 86, 87, 88, 89, 33, 90, 91, 41, 40, 138, 139, 140, 115, 116, 117, 118, 119, 120, 121, 122, 123, 124, 125, 126, 127, 128, 129, 130, 131, 132, 133, 134, 135, 136, 137] (by decide +kernel) (by decide +kernel)
set_option maxRecDepth 20000 in
theorem gX5_leave_X2_save_n58 : GoodIn wsX5_leave (wsX2_save) := ggX5_leave_X2_save
set_option maxRecDepth 20000 in
theorem ggX5_leave_X0_letGo : GoodIn wsX5_leave wsX0_letGo := goodIn_r _ [94, 19, 65, 66, 20, 26, 6, 27, 95, 11, 96, 97, 74, 75, 76, 77, 24, 25, 78, 31, 14, 98, 99, 100, 101, 102, 103, 104, 105, 106, 107, 33, 108, 109, 41, 115, 116, 117, 118, 119, 120, 121, 122, 123, 124, 125, 126, 127, 128, 129, 130, 131, 132, 133, 134, 135, 136, 137] (by decide +kernel) (by decide +kernel)
set_option maxRecDepth 20000 in
theorem gX5_leave_X0_letGo_n74 : GoodIn wsX5_leave (wsX0_letGo) := ggX5_leave_X0_letGo
theorem dX5_leave_0 : decode cX5_leave 0 = .ok (.aload_n 0, 1) := by decide +kernel
theorem dX5_leave_1 : decode cX5_leave 1 = .ok (.iload_n 1, 1) := by decide +kernel
theorem dX5_leave_2 : decode cX5_leave 2 = .ok (.invokevirtual 66, 3) := by decide +kernel
theorem dX5_leave_5 : decode cX5_leave 5 = .ok (.aload_n 0, 1) := by decide +kernel
theorem dX5_leave_6 : decode cX5_leave 6 = .ok (.getfield 10, 3) := by decide +kernel
theorem dX5_leave_9 : decode cX5_leave 9 = .ok (.iload_n 1, 1) := by decide +kernel
theorem dX5_leave_10 : decode cX5_leave 10 = .ok (.invokevirtual 70, 3) := by decide +kernel
theorem dX5_leave_13 : decode cX5_leave 13 = .ok (.invokestatic 55, 3) := by decide +kernel
theorem dX5_leave_16 : decode cX5_leave 16 = .ok (.aload_n 0, 1) := by decide +kernel
theorem dX5_leave_17 : decode cX5_leave 17 = .ok (.getfield 22, 3) := by decide +kernel
theorem dX5_leave_20 : decode cX5_leave 20 = .ok (.aload_n 0, 1) := by decide +kernel
theorem dX5_leave_21 : decode cX5_leave 21 = .ok (.getfield 10, 3) := by decide +kernel
theorem dX5_leave_24 : decode cX5_leave 24 = .ok (.invokevirtual 58, 3) := by decide +kernel
theorem dX5_leave_27 : decode cX5_leave 27 = .ok (.aload_n 0, 1) := by decide +kernel
theorem dX5_leave_28 : decode cX5_leave 28 = .ok (.getfield 10, 3) := by decide +kernel
theorem dX5_leave_31 : decode cX5_leave 31 = .ok (.iload_n 1, 1) := by decide +kernel
theorem dX5_leave_32 : decode cX5_leave 32 = .ok (.invokevirtual 74, 3) := by decide +kernel
theorem dX5_leave_35 : decode cX5_leave 35 = .ok (.ireturn, 1) := by decide +kernel
set_option maxRecDepth 20000 in
theorem ggX5_earn_X5_needGuest : GoodIn wsX5_earn wsX5_needGuest := goodIn_ca (goodIn_r _ [7, 8, 9, 2, 10, 11, 12, 13, 14, 85, 86, 87, 88, 89, 90, 91, 92, 93, 94, 95, 96, 97, 98, 99, 100, 101, 102, 103, 104, 105, 106, 107, 108, 109, 110] (by decide +kernel) (by decide +kernel)) (goodIn_sub (fun _ h => List.mem_cons_of_mem _ (List.mem_append_left _ (List.mem_append_right _ h))) (by decide +kernel))
set_option maxRecDepth 20000 in
theorem gX5_earn_X5_needGuest : GoodIn wsX5_earn (wsV RX5 66 RX5 yX5_needGuest wsX5_needGuest) := goodIn_app (goodIn_of _ (by decide +kernel)) ggX5_earn_X5_needGuest
set_option maxRecDepth 20000 in
theorem ggX5_earn_X5_isWithin : GoodIn wsX5_earn wsX5_isWithin := goodIn_r _ [17] (by decide +kernel) (by decide +kernel)
set_option maxRecDepth 20000 in
theorem gX5_earn_X5_isWithin : GoodIn wsX5_earn (va_wsS RX5 37 yX5_isWithin wsX5_isWithin) := goodIn_app (goodIn_of _ (by decide +kernel)) ggX5_earn_X5_isWithin
set_option maxRecDepth 20000 in
theorem ggX5_earn_X5_needArgument : GoodIn wsX5_earn wsX5_needArgument := goodIn_ca (goodIn_r _ [20, 21, 22] (by decide +kernel) (by decide +kernel)) (goodIn_sub (fun _ h => List.mem_cons_of_mem _ (List.mem_append_right _ h)) (by decide +kernel))
set_option maxRecDepth 20000 in
theorem gX5_earn_X5_needArgument : GoodIn wsX5_earn (va_wsS RX5 41 yX5_needArgument wsX5_needArgument) := goodIn_app (goodIn_of _ (by decide +kernel)) ggX5_earn_X5_needArgument
set_option maxRecDepth 20000 in
theorem ggX5_earn_X2_save : GoodIn wsX5_earn wsX2_save := goodIn_r _ [26, 27, 28, 29, 30, 31, 24, 32, 33, 34, 35, 36, 37, 38, 39, 40, 41, 42, 43, 44, 45, 46, 47, 48, 49, 50, 11, 51, 52, 53, 54, 55, 56, 57, 58, 59, 60, 14, 61, 6, 62, 63, 64, 65, 66, 67, 68, 69, 70, 71, 72, 73, 74, 75, 76, 111, 112, 113, 90, 91, 92, 93, 94, 95, 96, 97, 98, 99, 100, 101, 102, 103, 104, 105, 106, 107, 108, 109, 110, 114, 115] (by decide +kernel) (by decide +kernel)
set_option maxRecDepth 20000 in
theorem gX5_earn_X2_save_n58 : GoodIn wsX5_earn (wsX2_save) := ggX5_earn_X2_save
set_option maxRecDepth 20000 in
theorem ggX5_earn_X0_giveWages : GoodIn wsX5_earn wsX0_giveWages := goodIn_r _ [79, 38, 80, 64, 65, 66, 44, 81, 6, 82, 83, 84, 90, 91, 92, 93, 94, 95, 96, 97, 98, 99, 100, 101, 102, 103, 104, 105, 106, 107, 108, 109, 110] (by decide +kernel) (by decide +kernel)
set_option maxRecDepth 20000 in
theorem gX5_earn_X0_giveWages_n78 : GoodIn wsX5_earn (wsX0_giveWages) := ggX5_earn_X0_giveWages
theorem dX5_earn_0 : decode cX5_earn 0 = .ok (.aload_n 0, 1) := by decide +kernel
theorem dX5_earn_1 : decode cX5_earn 1 = .ok (.iload_n 1, 1) := by decide +kernel
theorem dX5_earn_2 : decode cX5_earn 2 = .ok (.invokevirtual 66, 3) := by decide +kernel
theorem dX5_earn_5 : decode cX5_earn 5 = .ok (.iload_n 2, 1) := by decide +kernel
theorem dX5_earn_6 : decode cX5_earn 6 = .ok (.iconst 1, 1) := by decide +kernel
theorem dX5_earn_7 : decode cX5_earn 7 = .ok (.bipush 99, 2) := by decide +kernel
theorem dX5_earn_9 : decode cX5_earn 9 = .ok (.invokestatic 37, 3) := by decide +kernel
theorem dX5_earn_12 : decode cX5_earn 12 = .ok (.invokestatic 41, 3) := by decide +kernel
theorem dX5_earn_15 : decode cX5_earn 15 = .ok (.aload_n 0, 1) := by decide +kernel
theorem dX5_earn_16 : decode cX5_earn 16 = .ok (.getfield 22, 3) := by decide +kernel
theorem dX5_earn_19 : decode cX5_earn 19 = .ok (.aload_n 0, 1) := by decide +kernel
theorem dX5_earn_20 : decode cX5_earn 20 = .ok (.getfield 10, 3) := by decide +kernel
theorem dX5_earn_23 : decode cX5_earn 23 = .ok (.invokevirtual 58, 3) := by decide +kernel
theorem dX5_earn_26 : decode cX5_earn 26 = .ok (.aload_n 0, 1) := by decide +kernel
theorem dX5_earn_27 : decode cX5_earn 27 = .ok (.getfield 10, 3) := by decide +kernel
theorem dX5_earn_30 : decode cX5_earn 30 = .ok (.iload_n 1, 1) := by decide +kernel
theorem dX5_earn_31 : decode cX5_earn 31 = .ok (.iload_n 2, 1) := by decide +kernel
theorem dX5_earn_32 : decode cX5_earn 32 = .ok (.invokevirtual 78, 3) := by decide +kernel
theorem dX5_earn_35 : decode cX5_earn 35 = .ok (.ireturn, 1) := by decide +kernel
set_option maxRecDepth 20000 in
theorem ggX5_lend_X5_needGuest : GoodIn wsX5_lend wsX5_needGuest := goodIn_ca (goodIn_r _ [7, 8, 9, 1, 10, 11, 12, 13, 14, 93, 94, 95, 96, 97, 98, 99, 100, 101, 102, 103, 104, 105, 106, 107, 108, 109, 110, 111, 112, 113, 114, 115, 116, 117, 118] (by decide +kernel) (by decide +kernel)) (goodIn_sub (fun _ h => List.mem_cons_of_mem _ (List.mem_append_left _ (List.mem_append_right _ h))) (by decide +kernel))
set_option maxRecDepth 20000 in
theorem gX5_lend_X5_needGuest : GoodIn wsX5_lend (wsV RX5 66 RX5 yX5_needGuest wsX5_needGuest) := goodIn_app (goodIn_of _ (by decide +kernel)) ggX5_lend_X5_needGuest
set_option maxRecDepth 20000 in
theorem ggX5_lend_X1_reasonNoLoan : GoodIn wsX5_lend wsX1_reasonNoLoan := goodIn_r _ [17, 18, 19, 20, 21, 11, 22, 23, 24, 6, 25, 26, 27, 28, 29, 30, 110, 111, 112, 113, 114, 115, 116, 117, 118] (by decide +kernel) (by decide +kernel)
set_option maxRecDepth 20000 in
theorem gX5_lend_X1_reasonNoLoan_n82 : GoodIn wsX5_lend (wsX1_reasonNoLoan) := ggX5_lend_X1_reasonNoLoan
set_option maxRecDepth 20000 in
theorem ggX5_lend_X5_needState : GoodIn wsX5_lend wsX5_needState := goodIn_ca (goodIn_r _ [33, 34, 35] (by decide +kernel) (by decide +kernel)) (goodIn_sub (fun _ h => List.mem_cons_of_mem _ (List.mem_append_right _ h)) (by decide +kernel))
set_option maxRecDepth 20000 in
theorem gX5_lend_X5_needState : GoodIn wsX5_lend (va_wsS RX5 55 yX5_needState wsX5_needState) := goodIn_app (goodIn_of _ (by decide +kernel)) ggX5_lend_X5_needState
set_option maxRecDepth 20000 in
theorem ggX5_lend_X2_save : GoodIn wsX5_lend wsX2_save := goodIn_r _ [39, 40, 41, 42, 43, 44, 37, 45, 46, 47, 48, 49, 50, 51, 52, 53, 54, 55, 56, 57, 58, 59, 60, 61, 62, 63, 11, 64, 65, 66, 67, 68, 69, 18, 23, 70, 30, 14, 71, 6, 72, 73, 74, 75, 76, 77, 78, 79, 80, 81, 82, 83, 84, 85, 86, 119, 120, 121, 98, 99, 100, 101, 102, 103, 104, 105, 106, 107, 108, 109, 110, 111, 112, 113, 114, 115, 116, 117, 118, 122, 123] (by decide +kernel) (by decide +kernel)
set_option maxRecDepth 20000 in
theorem gX5_lend_X2_save_n58 : GoodIn wsX5_lend (wsX2_save) := ggX5_lend_X2_save
set_option maxRecDepth 20000 in
theorem ggX5_lend_X1_lendCoat : GoodIn wsX5_lend wsX1_lendCoat := goodIn_r _ [89, 23, 18, 90, 6, 91, 110, 111, 112, 113, 114, 115, 116, 117, 118] (by decide +kernel) (by decide +kernel)
set_option maxRecDepth 20000 in
theorem gX5_lend_X1_lendCoat_n85 : GoodIn wsX5_lend (wsX1_lendCoat) := ggX5_lend_X1_lendCoat
set_option maxRecDepth 20000 in
theorem ggX5_lend_X5_at : GoodIn wsX5_lend wsX5_at := goodIn_r _ [25] (by decide +kernel) (by decide +kernel)
set_option maxRecDepth 20000 in
theorem gX5_lend_X5_at : GoodIn wsX5_lend (va_wsS RX5 93 yX5_at wsX5_at) := goodIn_app (goodIn_of _ (by decide +kernel)) ggX5_lend_X5_at
theorem dX5_lend_0 : decode cX5_lend 0 = .ok (.aload_n 0, 1) := by decide +kernel
theorem dX5_lend_1 : decode cX5_lend 1 = .ok (.iload_n 1, 1) := by decide +kernel
theorem dX5_lend_2 : decode cX5_lend 2 = .ok (.invokevirtual 66, 3) := by decide +kernel
theorem dX5_lend_5 : decode cX5_lend 5 = .ok (.aload_n 0, 1) := by decide +kernel
theorem dX5_lend_6 : decode cX5_lend 6 = .ok (.iload_n 2, 1) := by decide +kernel
theorem dX5_lend_7 : decode cX5_lend 7 = .ok (.invokevirtual 66, 3) := by decide +kernel
theorem dX5_lend_10 : decode cX5_lend 10 = .ok (.aload_n 0, 1) := by decide +kernel
theorem dX5_lend_11 : decode cX5_lend 11 = .ok (.getfield 10, 3) := by decide +kernel
theorem dX5_lend_14 : decode cX5_lend 14 = .ok (.getfield 45, 3) := by decide +kernel
theorem dX5_lend_17 : decode cX5_lend 17 = .ok (.iload_n 1, 1) := by decide +kernel
theorem dX5_lend_18 : decode cX5_lend 18 = .ok (.iload_n 2, 1) := by decide +kernel
theorem dX5_lend_19 : decode cX5_lend 19 = .ok (.invokevirtual 82, 3) := by decide +kernel
theorem dX5_lend_22 : decode cX5_lend 22 = .ok (.ifCond .ne 7, 3) := by decide +kernel
theorem dX5_lend_25 : decode cX5_lend 25 = .ok (.iconst 1, 1) := by decide +kernel
theorem dX5_lend_26 : decode cX5_lend 26 = .ok (.goto 4, 3) := by decide +kernel
theorem dX5_lend_29 : decode cX5_lend 29 = .ok (.iconst 0, 1) := by decide +kernel
theorem dX5_lend_30 : decode cX5_lend 30 = .ok (.invokestatic 55, 3) := by decide +kernel
theorem dX5_lend_33 : decode cX5_lend 33 = .ok (.aload_n 0, 1) := by decide +kernel
theorem dX5_lend_34 : decode cX5_lend 34 = .ok (.getfield 22, 3) := by decide +kernel
theorem dX5_lend_37 : decode cX5_lend 37 = .ok (.aload_n 0, 1) := by decide +kernel
theorem dX5_lend_38 : decode cX5_lend 38 = .ok (.getfield 10, 3) := by decide +kernel
theorem dX5_lend_41 : decode cX5_lend 41 = .ok (.invokevirtual 58, 3) := by decide +kernel
theorem dX5_lend_44 : decode cX5_lend 44 = .ok (.aload_n 0, 1) := by decide +kernel
theorem dX5_lend_45 : decode cX5_lend 45 = .ok (.getfield 10, 3) := by decide +kernel
theorem dX5_lend_48 : decode cX5_lend 48 = .ok (.getfield 45, 3) := by decide +kernel
theorem dX5_lend_51 : decode cX5_lend 51 = .ok (.iload_n 1, 1) := by decide +kernel
theorem dX5_lend_52 : decode cX5_lend 52 = .ok (.iload_n 2, 1) := by decide +kernel
theorem dX5_lend_53 : decode cX5_lend 53 = .ok (.invokevirtual 85, 3) := by decide +kernel
theorem dX5_lend_56 : decode cX5_lend 56 = .ok (.aload_n 0, 1) := by decide +kernel
theorem dX5_lend_57 : decode cX5_lend 57 = .ok (.getfield 10, 3) := by decide +kernel
theorem dX5_lend_60 : decode cX5_lend 60 = .ok (.getfield 45, 3) := by decide +kernel
theorem dX5_lend_63 : decode cX5_lend 63 = .ok (.getfield 89, 3) := by decide +kernel
theorem dX5_lend_66 : decode cX5_lend 66 = .ok (.iload_n 1, 1) := by decide +kernel
theorem dX5_lend_67 : decode cX5_lend 67 = .ok (.invokestatic 93, 3) := by decide +kernel
theorem dX5_lend_70 : decode cX5_lend 70 = .ok (.ireturn, 1) := by decide +kernel
set_option maxRecDepth 20000 in
theorem ggX5_giveBack_X5_needGuest : GoodIn wsX5_giveBack wsX5_needGuest := goodIn_ca (goodIn_r _ [7, 8, 9, 1, 10, 11, 12, 13, 14, 88, 89, 90, 91, 92, 93, 94, 95, 96, 97, 98, 99, 100, 101, 102, 103, 104, 105, 106, 107, 108, 109, 110, 111, 112, 113] (by decide +kernel) (by decide +kernel)) (goodIn_sub (fun _ h => List.mem_cons_of_mem _ (List.mem_append_left _ (List.mem_append_right _ h))) (by decide +kernel))
set_option maxRecDepth 20000 in
theorem gX5_giveBack_X5_needGuest : GoodIn wsX5_giveBack (wsV RX5 66 RX5 yX5_needGuest wsX5_needGuest) := goodIn_app (goodIn_of _ (by decide +kernel)) ggX5_giveBack_X5_needGuest
set_option maxRecDepth 20000 in
theorem ggX5_giveBack_X1_canReturnCoat : GoodIn wsX5_giveBack wsX1_canReturnCoat := goodIn_r _ [17, 18, 19, 6, 20, 21, 22, 23, 11, 24, 25, 105, 106, 107, 108, 109, 110, 111, 112, 113] (by decide +kernel) (by decide +kernel)
set_option maxRecDepth 20000 in
theorem gX5_giveBack_X1_canReturnCoat_n97 : GoodIn wsX5_giveBack (wsX1_canReturnCoat) := ggX5_giveBack_X1_canReturnCoat
set_option maxRecDepth 20000 in
theorem ggX5_giveBack_X5_needState : GoodIn wsX5_giveBack wsX5_needState := goodIn_ca (goodIn_r _ [28, 29, 30] (by decide +kernel) (by decide +kernel)) (goodIn_sub (fun _ h => List.mem_cons_of_mem _ (List.mem_append_right _ h)) (by decide +kernel))
set_option maxRecDepth 20000 in
theorem gX5_giveBack_X5_needState : GoodIn wsX5_giveBack (va_wsS RX5 55 yX5_needState wsX5_needState) := goodIn_app (goodIn_of _ (by decide +kernel)) ggX5_giveBack_X5_needState
set_option maxRecDepth 20000 in
theorem ggX5_giveBack_X2_save : GoodIn wsX5_giveBack wsX2_save := goodIn_r _ [34, 35, 36, 37, 38, 39, 32, 40, 41, 42, 43, 44, 45, 46, 47, 48, 49, 50, 51, 52, 53, 54, 55, 56, 57, 58, 11, 59, 60, 61, 62, 63, 64, 18, 65, 66, 25, 14, 67, 6, 68, 69, 70, 71, 72, 73, 74, 75, 76, 77, 78, 79, 80, 81, 82, 114, 115, 116, 93, 94, 95, 96, 97, 98, 99, 100, 101, 102, 103, 104, 105, 106, 107, 108, 109, 110, 111, 112, 113, 117, 118] (by decide +kernel) (by decide +kernel)
set_option maxRecDepth 20000 in
theorem gX5_giveBack_X2_save_n58 : GoodIn wsX5_giveBack (wsX2_save) := ggX5_giveBack_X2_save
set_option maxRecDepth 20000 in
theorem ggX5_giveBack_X1_returnCoat : GoodIn wsX5_giveBack wsX1_returnCoat := goodIn_r _ [85, 18, 65, 19, 6, 20, 86, 87, 105, 106, 107, 108, 109, 110, 111, 112, 113] (by decide +kernel) (by decide +kernel)
set_option maxRecDepth 20000 in
theorem gX5_giveBack_X1_returnCoat_n100 : GoodIn wsX5_giveBack (wsX1_returnCoat) := ggX5_giveBack_X1_returnCoat
theorem dX5_giveBack_0 : decode cX5_giveBack 0 = .ok (.aload_n 0, 1) := by decide +kernel
theorem dX5_giveBack_1 : decode cX5_giveBack 1 = .ok (.iload_n 1, 1) := by decide +kernel
theorem dX5_giveBack_2 : decode cX5_giveBack 2 = .ok (.invokevirtual 66, 3) := by decide +kernel
theorem dX5_giveBack_5 : decode cX5_giveBack 5 = .ok (.aload_n 0, 1) := by decide +kernel
theorem dX5_giveBack_6 : decode cX5_giveBack 6 = .ok (.getfield 10, 3) := by decide +kernel
theorem dX5_giveBack_9 : decode cX5_giveBack 9 = .ok (.getfield 45, 3) := by decide +kernel
theorem dX5_giveBack_12 : decode cX5_giveBack 12 = .ok (.iload_n 1, 1) := by decide +kernel
theorem dX5_giveBack_13 : decode cX5_giveBack 13 = .ok (.invokevirtual 97, 3) := by decide +kernel
theorem dX5_giveBack_16 : decode cX5_giveBack 16 = .ok (.invokestatic 55, 3) := by decide +kernel
theorem dX5_giveBack_19 : decode cX5_giveBack 19 = .ok (.aload_n 0, 1) := by decide +kernel
theorem dX5_giveBack_20 : decode cX5_giveBack 20 = .ok (.getfield 22, 3) := by decide +kernel
theorem dX5_giveBack_23 : decode cX5_giveBack 23 = .ok (.aload_n 0, 1) := by decide +kernel
theorem dX5_giveBack_24 : decode cX5_giveBack 24 = .ok (.getfield 10, 3) := by decide +kernel
theorem dX5_giveBack_27 : decode cX5_giveBack 27 = .ok (.invokevirtual 58, 3) := by decide +kernel
theorem dX5_giveBack_30 : decode cX5_giveBack 30 = .ok (.aload_n 0, 1) := by decide +kernel
theorem dX5_giveBack_31 : decode cX5_giveBack 31 = .ok (.getfield 10, 3) := by decide +kernel
theorem dX5_giveBack_34 : decode cX5_giveBack 34 = .ok (.getfield 45, 3) := by decide +kernel
theorem dX5_giveBack_37 : decode cX5_giveBack 37 = .ok (.iload_n 1, 1) := by decide +kernel
theorem dX5_giveBack_38 : decode cX5_giveBack 38 = .ok (.invokevirtual 100, 3) := by decide +kernel
theorem dX5_giveBack_41 : decode cX5_giveBack 41 = .ok (.ireturn, 1) := by decide +kernel
set_option maxRecDepth 20000 in
theorem ggX5_mask_X5_needGuest : GoodIn wsX5_mask wsX5_needGuest := goodIn_ca (goodIn_r _ [7, 8, 9, 1, 10, 11, 12, 13, 14, 88, 89, 90, 91, 92, 93, 94, 95, 96, 97, 98, 99, 100, 101, 102, 103, 104, 105, 106, 107, 108, 109, 110, 111, 112, 113] (by decide +kernel) (by decide +kernel)) (goodIn_sub (fun _ h => List.mem_cons_of_mem _ (List.mem_append_left _ (List.mem_append_right _ h))) (by decide +kernel))
set_option maxRecDepth 20000 in
theorem gX5_mask_X5_needGuest : GoodIn wsX5_mask (wsV RX5 66 RX5 yX5_needGuest wsX5_needGuest) := goodIn_app (goodIn_of _ (by decide +kernel)) ggX5_mask_X5_needGuest
set_option maxRecDepth 20000 in
theorem ggX5_mask_X0_reasonNoMask : GoodIn wsX5_mask wsX0_reasonNoMask := goodIn_r _ [18, 19, 20, 6, 21, 93, 94, 95, 96, 97, 98, 99, 100, 101, 102, 103, 104, 105, 106, 107, 108, 109, 110, 111, 112, 113] (by decide +kernel) (by decide +kernel)
set_option maxRecDepth 20000 in
theorem gX5_mask_X0_reasonNoMask_n103 : GoodIn wsX5_mask (wsX0_reasonNoMask) := ggX5_mask_X0_reasonNoMask
set_option maxRecDepth 20000 in
theorem ggX5_mask_X5_needState : GoodIn wsX5_mask wsX5_needState := goodIn_ca (goodIn_r _ [24, 25, 26] (by decide +kernel) (by decide +kernel)) (goodIn_sub (fun _ h => List.mem_cons_of_mem _ (List.mem_append_right _ h)) (by decide +kernel))
set_option maxRecDepth 20000 in
theorem gX5_mask_X5_needState : GoodIn wsX5_mask (va_wsS RX5 55 yX5_needState wsX5_needState) := goodIn_app (goodIn_of _ (by decide +kernel)) ggX5_mask_X5_needState
set_option maxRecDepth 20000 in
theorem ggX5_mask_X2_save : GoodIn wsX5_mask wsX2_save := goodIn_r _ [30, 31, 32, 33, 34, 35, 28, 36, 37, 38, 16, 39, 40, 19, 41, 42, 43, 44, 45, 46, 47, 48, 49, 50, 51, 52, 11, 53, 54, 55, 56, 57, 58, 59, 60, 61, 62, 14, 63, 6, 64, 65, 66, 67, 68, 69, 70, 71, 72, 73, 74, 75, 76, 77, 78, 114, 115, 116, 93, 94, 95, 96, 97, 98, 99, 100, 101, 102, 103, 104, 105, 106, 107, 108, 109, 110, 111, 112, 113, 117, 118] (by decide +kernel) (by decide +kernel)
set_option maxRecDepth 20000 in
theorem gX5_mask_X2_save_n58 : GoodIn wsX5_mask (wsX2_save) := ggX5_mask_X2_save
set_option maxRecDepth 20000 in
theorem ggX5_mask_X0_takeMask : GoodIn wsX5_mask wsX0_takeMask := goodIn_r _ [81, 44, 19, 42, 82, 11, 83, 84, 56, 20, 6, 21, 85, 86, 93, 94, 95, 96, 97, 98, 99, 100, 101, 102, 103, 104, 105, 106, 107, 108, 109, 110, 111, 112, 113] (by decide +kernel) (by decide +kernel)
set_option maxRecDepth 20000 in
theorem gX5_mask_X0_takeMask_n106 : GoodIn wsX5_mask (wsX0_takeMask) := ggX5_mask_X0_takeMask
set_option maxRecDepth 20000 in
theorem ggX5_mask_X5_at : GoodIn wsX5_mask wsX5_at := goodIn_r _ [21] (by decide +kernel) (by decide +kernel)
set_option maxRecDepth 20000 in
theorem gX5_mask_X5_at : GoodIn wsX5_mask (va_wsS RX5 93 yX5_at wsX5_at) := goodIn_app (goodIn_of _ (by decide +kernel)) ggX5_mask_X5_at
theorem dX5_mask_0 : decode cX5_mask 0 = .ok (.aload_n 0, 1) := by decide +kernel
theorem dX5_mask_1 : decode cX5_mask 1 = .ok (.iload_n 1, 1) := by decide +kernel
theorem dX5_mask_2 : decode cX5_mask 2 = .ok (.invokevirtual 66, 3) := by decide +kernel
theorem dX5_mask_5 : decode cX5_mask 5 = .ok (.aload_n 0, 1) := by decide +kernel
theorem dX5_mask_6 : decode cX5_mask 6 = .ok (.getfield 10, 3) := by decide +kernel
theorem dX5_mask_9 : decode cX5_mask 9 = .ok (.iload_n 1, 1) := by decide +kernel
theorem dX5_mask_10 : decode cX5_mask 10 = .ok (.invokevirtual 103, 3) := by decide +kernel
theorem dX5_mask_13 : decode cX5_mask 13 = .ok (.ifCond .ne 7, 3) := by decide +kernel
theorem dX5_mask_16 : decode cX5_mask 16 = .ok (.iconst 1, 1) := by decide +kernel
theorem dX5_mask_17 : decode cX5_mask 17 = .ok (.goto 4, 3) := by decide +kernel
theorem dX5_mask_20 : decode cX5_mask 20 = .ok (.iconst 0, 1) := by decide +kernel
theorem dX5_mask_21 : decode cX5_mask 21 = .ok (.invokestatic 55, 3) := by decide +kernel
theorem dX5_mask_24 : decode cX5_mask 24 = .ok (.aload_n 0, 1) := by decide +kernel
theorem dX5_mask_25 : decode cX5_mask 25 = .ok (.getfield 22, 3) := by decide +kernel
theorem dX5_mask_28 : decode cX5_mask 28 = .ok (.aload_n 0, 1) := by decide +kernel
theorem dX5_mask_29 : decode cX5_mask 29 = .ok (.getfield 10, 3) := by decide +kernel
theorem dX5_mask_32 : decode cX5_mask 32 = .ok (.invokevirtual 58, 3) := by decide +kernel
theorem dX5_mask_35 : decode cX5_mask 35 = .ok (.aload_n 0, 1) := by decide +kernel
theorem dX5_mask_36 : decode cX5_mask 36 = .ok (.getfield 10, 3) := by decide +kernel
theorem dX5_mask_39 : decode cX5_mask 39 = .ok (.iload_n 1, 1) := by decide +kernel
theorem dX5_mask_40 : decode cX5_mask 40 = .ok (.invokevirtual 106, 3) := by decide +kernel
theorem dX5_mask_43 : decode cX5_mask 43 = .ok (.aload_n 0, 1) := by decide +kernel
theorem dX5_mask_44 : decode cX5_mask 44 = .ok (.getfield 10, 3) := by decide +kernel
theorem dX5_mask_47 : decode cX5_mask 47 = .ok (.getfield 45, 3) := by decide +kernel
theorem dX5_mask_50 : decode cX5_mask 50 = .ok (.getfield 109, 3) := by decide +kernel
theorem dX5_mask_53 : decode cX5_mask 53 = .ok (.iload_n 1, 1) := by decide +kernel
theorem dX5_mask_54 : decode cX5_mask 54 = .ok (.invokestatic 93, 3) := by decide +kernel
theorem dX5_mask_57 : decode cX5_mask 57 = .ok (.ireturn, 1) := by decide +kernel
set_option maxRecDepth 20000 in
theorem ggX5_pay_X5_needGuest : GoodIn wsX5_pay wsX5_needGuest := goodIn_ca (goodIn_r _ [7, 8, 9, 2, 10, 11, 12, 13, 14, 81, 82, 83, 84, 85, 86, 87, 88, 89, 90, 91, 92, 93, 94, 95, 96, 97, 98, 99, 100, 101, 102, 103, 104, 105, 106] (by decide +kernel) (by decide +kernel)) (goodIn_sub (fun _ h => List.mem_cons_of_mem _ (List.mem_append_right _ h)) (by decide +kernel))
set_option maxRecDepth 20000 in
theorem gX5_pay_X5_needGuest : GoodIn wsX5_pay (wsV RX5 66 RX5 yX5_needGuest wsX5_needGuest) := goodIn_app (goodIn_of _ (by decide +kernel)) ggX5_pay_X5_needGuest
set_option maxRecDepth 20000 in
theorem ggX5_pay_X2_save : GoodIn wsX5_pay wsX2_save := goodIn_r _ [18, 19, 20, 21, 22, 23, 16, 24, 25, 26, 27, 28, 29, 30, 31, 32, 33, 34, 35, 36, 37, 38, 39, 40, 41, 42, 11, 43, 44, 45, 46, 47, 48, 49, 50, 51, 52, 14, 53, 6, 54, 55, 56, 57, 58, 59, 60, 61, 62, 63, 64, 65, 66, 67, 68, 107, 108, 109, 86, 87, 88, 89, 90, 91, 92, 93, 94, 95, 96, 97, 98, 99, 100, 101, 102, 103, 104, 105, 106, 110, 111] (by decide +kernel) (by decide +kernel)
set_option maxRecDepth 20000 in
theorem gX5_pay_X2_save_n58 : GoodIn wsX5_pay (wsX2_save) := ggX5_pay_X2_save
set_option maxRecDepth 20000 in
theorem ggX5_pay_X0_payDebts : GoodIn wsX5_pay wsX0_payDebts := goodIn_r _ [71, 30, 72, 56, 57, 58, 34, 73, 6, 74, 75, 11, 76, 77, 46, 78, 79, 86, 87, 88, 89, 90, 91, 92, 93, 94, 95, 96, 97, 98, 99, 100, 101, 102, 103, 104, 105, 106] (by decide +kernel) (by decide +kernel)
set_option maxRecDepth 20000 in
theorem gX5_pay_X0_payDebts_n112 : GoodIn wsX5_pay (wsX0_payDebts) := ggX5_pay_X0_payDebts
set_option maxRecDepth 20000 in
theorem ggX5_pay_X5_at : GoodIn wsX5_pay wsX5_at := goodIn_r _ [74] (by decide +kernel) (by decide +kernel)
set_option maxRecDepth 20000 in
theorem gX5_pay_X5_at : GoodIn wsX5_pay (va_wsS RX5 93 yX5_at wsX5_at) := goodIn_app (goodIn_of _ (by decide +kernel)) ggX5_pay_X5_at
theorem dX5_pay_0 : decode cX5_pay 0 = .ok (.aload_n 0, 1) := by decide +kernel
theorem dX5_pay_1 : decode cX5_pay 1 = .ok (.iload_n 1, 1) := by decide +kernel
theorem dX5_pay_2 : decode cX5_pay 2 = .ok (.invokevirtual 66, 3) := by decide +kernel
theorem dX5_pay_5 : decode cX5_pay 5 = .ok (.aload_n 0, 1) := by decide +kernel
theorem dX5_pay_6 : decode cX5_pay 6 = .ok (.getfield 22, 3) := by decide +kernel
theorem dX5_pay_9 : decode cX5_pay 9 = .ok (.aload_n 0, 1) := by decide +kernel
theorem dX5_pay_10 : decode cX5_pay 10 = .ok (.getfield 10, 3) := by decide +kernel
theorem dX5_pay_13 : decode cX5_pay 13 = .ok (.invokevirtual 58, 3) := by decide +kernel
theorem dX5_pay_16 : decode cX5_pay 16 = .ok (.aload_n 0, 1) := by decide +kernel
theorem dX5_pay_17 : decode cX5_pay 17 = .ok (.getfield 10, 3) := by decide +kernel
theorem dX5_pay_20 : decode cX5_pay 20 = .ok (.iload_n 1, 1) := by decide +kernel
theorem dX5_pay_21 : decode cX5_pay 21 = .ok (.invokevirtual 112, 3) := by decide +kernel
theorem dX5_pay_24 : decode cX5_pay 24 = .ok (.aload_n 0, 1) := by decide +kernel
theorem dX5_pay_25 : decode cX5_pay 25 = .ok (.getfield 10, 3) := by decide +kernel
theorem dX5_pay_28 : decode cX5_pay 28 = .ok (.getfield 45, 3) := by decide +kernel
theorem dX5_pay_31 : decode cX5_pay 31 = .ok (.getfield 115, 3) := by decide +kernel
theorem dX5_pay_34 : decode cX5_pay 34 = .ok (.iload_n 1, 1) := by decide +kernel
theorem dX5_pay_35 : decode cX5_pay 35 = .ok (.invokestatic 93, 3) := by decide +kernel
theorem dX5_pay_38 : decode cX5_pay 38 = .ok (.ireturn, 1) := by decide +kernel
set_option maxRecDepth 20000 in
theorem ggX5_queue_X5_needGuest : GoodIn wsX5_queue wsX5_needGuest := goodIn_ca (goodIn_r _ [7, 8, 9, 1, 10, 11, 12, 13, 14, 103, 104, 105, 106, 107, 108, 109, 110, 111, 112, 113, 114, 115, 116, 117, 118, 119, 120, 121, 122, 123, 124, 125, 126, 127, 128] (by decide +kernel) (by decide +kernel)) (goodIn_sub (fun _ h => List.mem_cons_of_mem _ (List.mem_append_left _ (List.mem_append_right _ h))) (by decide +kernel))
set_option maxRecDepth 20000 in
theorem gX5_queue_X5_needGuest : GoodIn wsX5_queue (wsV RX5 66 RX5 yX5_needGuest wsX5_needGuest) := goodIn_app (goodIn_of _ (by decide +kernel)) ggX5_queue_X5_needGuest
set_option maxRecDepth 20000 in
theorem ggX5_queue_X5_isGate : GoodIn wsX5_queue wsX5_isGate := goodIn_r _ [17, 18, 19, 6, 20] (by decide +kernel) (by decide +kernel)
set_option maxRecDepth 20000 in
theorem gX5_queue_X5_isGate : GoodIn wsX5_queue (va_wsS RX5 118 yX5_isGate wsX5_isGate) := goodIn_app (goodIn_of _ (by decide +kernel)) ggX5_queue_X5_isGate
set_option maxRecDepth 20000 in
theorem ggX5_queue_X5_needIndex : GoodIn wsX5_queue wsX5_needIndex := goodIn_ca (goodIn_r _ [23, 8, 9] (by decide +kernel) (by decide +kernel)) (goodIn_sub (fun _ h => List.mem_cons_of_mem _ (List.mem_append_left _ (List.mem_append_right _ h))) (by decide +kernel))
set_option maxRecDepth 20000 in
theorem gX5_queue_X5_needIndex : GoodIn wsX5_queue (va_wsS RX5 121 yX5_needIndex wsX5_needIndex) := goodIn_app (goodIn_of _ (by decide +kernel)) ggX5_queue_X5_needIndex
set_option maxRecDepth 20000 in
theorem ggX5_queue_X0_reasonNoLine : GoodIn wsX5_queue wsX0_reasonNoLine := goodIn_r _ [27, 28, 29, 30, 31, 11, 32, 33, 34, 35, 6, 36, 37, 38, 39, 40, 41, 42, 43, 44, 45, 46, 108, 109, 110, 111, 112, 113, 114, 115, 116, 117, 118, 119, 120, 121, 122, 123, 124, 125, 126, 127, 128, 129, 130] (by decide +kernel) (by decide +kernel)
set_option maxRecDepth 20000 in
theorem gX5_queue_X0_reasonNoLine_n124 : GoodIn wsX5_queue (wsX0_reasonNoLine) := ggX5_queue_X0_reasonNoLine
set_option maxRecDepth 20000 in
theorem ggX5_queue_X5_needState : GoodIn wsX5_queue wsX5_needState := goodIn_ca (goodIn_r _ [49, 50, 51] (by decide +kernel) (by decide +kernel)) (goodIn_sub (fun _ h => List.mem_cons_of_mem _ (List.mem_append_right _ h)) (by decide +kernel))
set_option maxRecDepth 20000 in
theorem gX5_queue_X5_needState : GoodIn wsX5_queue (va_wsS RX5 55 yX5_needState wsX5_needState) := goodIn_app (goodIn_of _ (by decide +kernel)) ggX5_queue_X5_needState
set_option maxRecDepth 20000 in
theorem ggX5_queue_X2_save : GoodIn wsX5_queue wsX2_save := goodIn_r _ [55, 56, 57, 58, 59, 60, 53, 61, 62, 63, 25, 64, 65, 28, 29, 30, 66, 67, 68, 69, 70, 71, 72, 73, 74, 75, 11, 76, 77, 78, 79, 80, 81, 82, 83, 84, 34, 14, 85, 6, 86, 87, 88, 89, 90, 91, 92, 93, 94, 95, 38, 96, 97, 46, 45, 131, 132, 133, 108, 109, 110, 111, 112, 113, 114, 115, 116, 117, 118, 119, 120, 121, 122, 123, 124, 125, 126, 127, 128, 129, 130] (by decide +kernel) (by decide +kernel)
set_option maxRecDepth 20000 in
theorem gX5_queue_X2_save_n58 : GoodIn wsX5_queue (wsX2_save) := ggX5_queue_X2_save
set_option maxRecDepth 20000 in
theorem ggX5_queue_X3_enter : GoodIn wsX5_queue wsX3_enter := goodIn_r _ [100, 45, 46, 35, 6, 36, 101, 102, 129, 130] (by decide +kernel) (by decide +kernel)
set_option maxRecDepth 20000 in
theorem gX5_queue_X3_enter_n131 : GoodIn wsX5_queue (wsX3_enter) := ggX5_queue_X3_enter
theorem dX5_queue_0 : decode cX5_queue 0 = .ok (.aload_n 0, 1) := by decide +kernel
theorem dX5_queue_1 : decode cX5_queue 1 = .ok (.iload_n 1, 1) := by decide +kernel
theorem dX5_queue_2 : decode cX5_queue 2 = .ok (.invokevirtual 66, 3) := by decide +kernel
theorem dX5_queue_5 : decode cX5_queue 5 = .ok (.iload_n 2, 1) := by decide +kernel
theorem dX5_queue_6 : decode cX5_queue 6 = .ok (.invokestatic 118, 3) := by decide +kernel
theorem dX5_queue_9 : decode cX5_queue 9 = .ok (.invokestatic 121, 3) := by decide +kernel
theorem dX5_queue_12 : decode cX5_queue 12 = .ok (.aload_n 0, 1) := by decide +kernel
theorem dX5_queue_13 : decode cX5_queue 13 = .ok (.getfield 10, 3) := by decide +kernel
theorem dX5_queue_16 : decode cX5_queue 16 = .ok (.iload_n 1, 1) := by decide +kernel
theorem dX5_queue_17 : decode cX5_queue 17 = .ok (.invokevirtual 124, 3) := by decide +kernel
theorem dX5_queue_20 : decode cX5_queue 20 = .ok (.ifCond .ne 7, 3) := by decide +kernel
theorem dX5_queue_23 : decode cX5_queue 23 = .ok (.iconst 1, 1) := by decide +kernel
theorem dX5_queue_24 : decode cX5_queue 24 = .ok (.goto 4, 3) := by decide +kernel
theorem dX5_queue_27 : decode cX5_queue 27 = .ok (.iconst 0, 1) := by decide +kernel
theorem dX5_queue_28 : decode cX5_queue 28 = .ok (.invokestatic 55, 3) := by decide +kernel
theorem dX5_queue_31 : decode cX5_queue 31 = .ok (.aload_n 0, 1) := by decide +kernel
theorem dX5_queue_32 : decode cX5_queue 32 = .ok (.getfield 22, 3) := by decide +kernel
theorem dX5_queue_35 : decode cX5_queue 35 = .ok (.aload_n 0, 1) := by decide +kernel
theorem dX5_queue_36 : decode cX5_queue 36 = .ok (.getfield 10, 3) := by decide +kernel
theorem dX5_queue_39 : decode cX5_queue 39 = .ok (.invokevirtual 58, 3) := by decide +kernel
theorem dX5_queue_42 : decode cX5_queue 42 = .ok (.aload_n 0, 1) := by decide +kernel
theorem dX5_queue_43 : decode cX5_queue 43 = .ok (.getfield 10, 3) := by decide +kernel
theorem dX5_queue_46 : decode cX5_queue 46 = .ok (.getfield 127, 3) := by decide +kernel
theorem dX5_queue_49 : decode cX5_queue 49 = .ok (.iload_n 1, 1) := by decide +kernel
theorem dX5_queue_50 : decode cX5_queue 50 = .ok (.iload_n 2, 1) := by decide +kernel
theorem dX5_queue_51 : decode cX5_queue 51 = .ok (.invokevirtual 131, 3) := by decide +kernel
theorem dX5_queue_54 : decode cX5_queue 54 = .ok (.ireturn, 1) := by decide +kernel
set_option maxRecDepth 20000 in
theorem ggX5_open_X5_isGate : GoodIn wsX5_open wsX5_isGate := goodIn_r _ [6, 7, 8, 5, 9] (by decide +kernel) (by decide +kernel)
set_option maxRecDepth 20000 in
theorem gX5_open_X5_isGate : GoodIn wsX5_open (va_wsS RX5 118 yX5_isGate wsX5_isGate) := goodIn_app (goodIn_of _ (by decide +kernel)) ggX5_open_X5_isGate
set_option maxRecDepth 20000 in
theorem ggX5_open_X5_needIndex : GoodIn wsX5_open wsX5_needIndex := goodIn_ca (goodIn_r _ [12, 13, 14] (by decide +kernel) (by decide +kernel)) (goodIn_sub (fun _ h => List.mem_cons_of_mem _ (List.mem_append_left _ (List.mem_append_right _ h))) (by decide +kernel))
set_option maxRecDepth 20000 in
theorem gX5_open_X5_needIndex : GoodIn wsX5_open (va_wsS RX5 121 yX5_needIndex wsX5_needIndex) := goodIn_app (goodIn_of _ (by decide +kernel)) ggX5_open_X5_needIndex
set_option maxRecDepth 20000 in
theorem ggX5_open_X5_at : GoodIn wsX5_open wsX5_at := goodIn_r _ [17] (by decide +kernel) (by decide +kernel)
set_option maxRecDepth 20000 in
theorem gX5_open_X5_at : GoodIn wsX5_open (va_wsS RX5 93 yX5_at wsX5_at) := goodIn_app (goodIn_of _ (by decide +kernel)) ggX5_open_X5_at
set_option maxRecDepth 20000 in
theorem ggX5_open_X5_needState : GoodIn wsX5_open wsX5_needState := goodIn_ca (goodIn_r _ [20, 21, 22] (by decide +kernel) (by decide +kernel)) (goodIn_sub (fun _ h => List.mem_cons_of_mem _ (List.mem_append_right _ h)) (by decide +kernel))
set_option maxRecDepth 20000 in
theorem gX5_open_X5_needState : GoodIn wsX5_open (va_wsS RX5 55 yX5_needState wsX5_needState) := goodIn_app (goodIn_of _ (by decide +kernel)) ggX5_open_X5_needState
set_option maxRecDepth 20000 in
theorem ggX5_open_X2_save : GoodIn wsX5_open wsX2_save := goodIn_r _ [26, 27, 28, 29, 30, 31, 24, 32, 33, 34, 35, 36, 37, 38, 39, 40, 41, 42, 43, 44, 45, 46, 47, 48, 49, 50, 51, 52, 53, 54, 55, 56, 57, 58, 59, 60, 61, 62, 63, 5, 64, 65, 66, 67, 68, 69, 70, 71, 72, 73, 74, 75, 76, 77, 78, 155, 156, 157, 141, 142, 143, 144, 145, 146, 147, 148, 149, 150, 151, 152, 158, 159, 160, 161, 162, 163, 164, 165, 166, 153, 154] (by decide +kernel) (by decide +kernel)
set_option maxRecDepth 20000 in
theorem gX5_open_X2_save_n58 : GoodIn wsX5_open (wsX2_save) := ggX5_open_X2_save
set_option maxRecDepth 20000 in
theorem ggX5_open_X0_openOnce : GoodIn wsX5_open wsX0_openOnce := goodIn_r _ [81, 39, 38, 40, 42, 82, 74, 83, 84, 78, 77, 16, 5, 17, 85, 86, 87, 88, 89, 90, 91, 51, 92, 93, 62, 94, 95, 96, 35, 97, 41, 98, 99, 67, 100, 101, 102, 103, 104, 105, 106, 107, 58, 59, 108, 109, 110, 57, 111, 112, 113, 114, 115, 116, 117, 118, 119, 120, 121, 122, 123, 124, 66, 68, 125, 126, 127, 128, 129, 130, 131, 55, 132, 133, 134, 135, 43, 47, 46, 141, 142, 143, 144, 145, 146, 147, 148, 149, 150, 151, 152, 158, 159, 160, 161, 162, 163, 164, 165, 166, 153, 154] (by decide +kernel) (by decide +kernel)
set_option maxRecDepth 20000 in
theorem gX5_open_X0_openOnce_n139 : GoodIn wsX5_open (wsX0_openOnce) := ggX5_open_X0_openOnce
theorem dX5_open_0 : decode cX5_open 0 = .ok (.iload_n 1, 1) := by decide +kernel
theorem dX5_open_1 : decode cX5_open 1 = .ok (.invokestatic 118, 3) := by decide +kernel
theorem dX5_open_4 : decode cX5_open 4 = .ok (.invokestatic 121, 3) := by decide +kernel
theorem dX5_open_7 : decode cX5_open 7 = .ok (.aload_n 0, 1) := by decide +kernel
theorem dX5_open_8 : decode cX5_open 8 = .ok (.getfield 10, 3) := by decide +kernel
theorem dX5_open_11 : decode cX5_open 11 = .ok (.getfield 127, 3) := by decide +kernel
theorem dX5_open_14 : decode cX5_open 14 = .ok (.getfield 136, 3) := by decide +kernel
theorem dX5_open_17 : decode cX5_open 17 = .ok (.iload_n 1, 1) := by decide +kernel
theorem dX5_open_18 : decode cX5_open 18 = .ok (.invokestatic 93, 3) := by decide +kernel
theorem dX5_open_21 : decode cX5_open 21 = .ok (.ifCond .le 7, 3) := by decide +kernel
theorem dX5_open_24 : decode cX5_open 24 = .ok (.iconst 1, 1) := by decide +kernel
theorem dX5_open_25 : decode cX5_open 25 = .ok (.goto 4, 3) := by decide +kernel
theorem dX5_open_28 : decode cX5_open 28 = .ok (.iconst 0, 1) := by decide +kernel
theorem dX5_open_29 : decode cX5_open 29 = .ok (.invokestatic 55, 3) := by decide +kernel
theorem dX5_open_32 : decode cX5_open 32 = .ok (.aload_n 0, 1) := by decide +kernel
theorem dX5_open_33 : decode cX5_open 33 = .ok (.getfield 22, 3) := by decide +kernel
theorem dX5_open_36 : decode cX5_open 36 = .ok (.aload_n 0, 1) := by decide +kernel
theorem dX5_open_37 : decode cX5_open 37 = .ok (.getfield 10, 3) := by decide +kernel
theorem dX5_open_40 : decode cX5_open 40 = .ok (.invokevirtual 58, 3) := by decide +kernel
theorem dX5_open_43 : decode cX5_open 43 = .ok (.aload_n 0, 1) := by decide +kernel
theorem dX5_open_44 : decode cX5_open 44 = .ok (.getfield 10, 3) := by decide +kernel
theorem dX5_open_47 : decode cX5_open 47 = .ok (.iload_n 1, 1) := by decide +kernel
theorem dX5_open_48 : decode cX5_open 48 = .ok (.invokevirtual 139, 3) := by decide +kernel
theorem dX5_open_51 : decode cX5_open 51 = .ok (.ireturn, 1) := by decide +kernel
set_option maxRecDepth 20000 in
theorem ggX5_night_X2_save : GoodIn wsX5_night wsX2_save := goodIn_r _ [6, 7, 8, 9, 10, 11, 4, 12, 13, 14, 15, 16, 17, 18, 19, 20, 21, 22, 23, 24, 25, 26, 27, 28, 29, 30, 31, 32, 33, 34, 35, 36, 37, 38, 39, 40, 41, 42, 43, 44, 45, 46, 47, 48, 49, 50, 51, 52, 53, 54, 55, 56, 57, 58, 59, 84, 85, 86, 87, 88, 89, 90, 91, 92, 93, 94, 95, 96, 97, 98, 99, 100, 101, 102, 103, 104, 105, 106, 107, 108, 109] (by decide +kernel) (by decide +kernel)
set_option maxRecDepth 20000 in
theorem gX5_night_X2_save_n58 : GoodIn wsX5_night (wsX2_save) := ggX5_night_X2_save
set_option maxRecDepth 20000 in
theorem ggX5_night_X0_endNight : GoodIn wsX5_night wsX0_endNight := goodIn_r _ [62, 18, 19, 21, 63, 44, 64, 65, 66, 67, 68, 31, 69, 70, 42, 41, 40, 71, 72, 48, 73, 74, 75, 76, 55, 77, 78, 59, 87, 88, 89, 90, 91, 92, 93, 94, 95, 96, 97, 98, 99, 100, 101, 102, 103, 104, 105, 106, 107, 108, 109] (by decide +kernel) (by decide +kernel)
set_option maxRecDepth 20000 in
theorem gX5_night_X0_endNight_n142 : GoodIn wsX5_night (wsX0_endNight) := ggX5_night_X0_endNight
theorem dX5_night_0 : decode cX5_night 0 = .ok (.aload_n 0, 1) := by decide +kernel
theorem dX5_night_1 : decode cX5_night 1 = .ok (.getfield 22, 3) := by decide +kernel
theorem dX5_night_4 : decode cX5_night 4 = .ok (.aload_n 0, 1) := by decide +kernel
theorem dX5_night_5 : decode cX5_night 5 = .ok (.getfield 10, 3) := by decide +kernel
theorem dX5_night_8 : decode cX5_night 8 = .ok (.invokevirtual 58, 3) := by decide +kernel
theorem dX5_night_11 : decode cX5_night 11 = .ok (.aload_n 0, 1) := by decide +kernel
theorem dX5_night_12 : decode cX5_night 12 = .ok (.getfield 10, 3) := by decide +kernel
theorem dX5_night_15 : decode cX5_night 15 = .ok (.invokevirtual 142, 3) := by decide +kernel
theorem dX5_night_18 : decode cX5_night 18 = .ok (.ireturn, 1) := by decide +kernel
set_option maxRecDepth 20000 in
theorem ggX5_set_X5_isWithin : GoodIn wsX5_set wsX5_isWithin := goodIn_r _ [8] (by decide +kernel) (by decide +kernel)
set_option maxRecDepth 20000 in
theorem gX5_set_X5_isWithin : GoodIn wsX5_set (va_wsS RX5 37 yX5_isWithin wsX5_isWithin) := goodIn_app (goodIn_of _ (by decide +kernel)) ggX5_set_X5_isWithin
set_option maxRecDepth 20000 in
theorem ggX5_set_X5_needIndex : GoodIn wsX5_set wsX5_needIndex := goodIn_ca (goodIn_r _ [11, 12, 13] (by decide +kernel) (by decide +kernel)) (goodIn_sub (fun _ h => List.mem_cons_of_mem _ (List.mem_append_left _ (List.mem_append_right _ h))) (by decide +kernel))
set_option maxRecDepth 20000 in
theorem gX5_set_X5_needIndex : GoodIn wsX5_set (va_wsS RX5 121 yX5_needIndex wsX5_needIndex) := goodIn_app (goodIn_of _ (by decide +kernel)) ggX5_set_X5_needIndex
set_option maxRecDepth 20000 in
theorem ggX5_set_X5_at : GoodIn wsX5_set wsX5_at := goodIn_r _ [16] (by decide +kernel) (by decide +kernel)
set_option maxRecDepth 20000 in
theorem gX5_set_X5_at : GoodIn wsX5_set (va_wsS RX5 93 yX5_at wsX5_at) := goodIn_app (goodIn_of _ (by decide +kernel)) ggX5_set_X5_at
set_option maxRecDepth 20000 in
theorem ggX5_set_X5_needArgument : GoodIn wsX5_set wsX5_needArgument := goodIn_ca (goodIn_r _ [19, 20, 21] (by decide +kernel) (by decide +kernel)) (goodIn_sub (fun _ h => List.mem_cons_of_mem _ (List.mem_append_right _ h)) (by decide +kernel))
set_option maxRecDepth 20000 in
theorem gX5_set_X5_needArgument : GoodIn wsX5_set (va_wsS RX5 41 yX5_needArgument wsX5_needArgument) := goodIn_app (goodIn_of _ (by decide +kernel)) ggX5_set_X5_needArgument
set_option maxRecDepth 20000 in
theorem ggX5_set_X2_save : GoodIn wsX5_set wsX2_save := goodIn_r _ [25, 26, 27, 28, 29, 30, 23, 31, 32, 33, 34, 35, 36, 37, 38, 39, 40, 41, 42, 43, 44, 45, 46, 47, 48, 49, 50, 51, 52, 53, 54, 55, 56, 57, 58, 59, 60, 61, 62, 7, 63, 64, 65, 66, 67, 68, 69, 70, 71, 72, 73, 74, 75, 76, 77, 98, 99, 100, 86, 87, 88, 89, 90, 91, 92, 93, 94, 95, 96, 97, 101, 102, 103, 104, 105, 106, 107, 108, 109, 110, 111] (by decide +kernel) (by decide +kernel)
set_option maxRecDepth 20000 in
theorem gX5_set_X2_save_n58 : GoodIn wsX5_set (wsX2_save) := ggX5_set_X2_save
set_option maxRecDepth 20000 in
theorem ggX5_set_X5_put : GoodIn wsX5_set wsX5_put := goodIn_r _ [80] (by decide +kernel) (by decide +kernel)
set_option maxRecDepth 20000 in
theorem gX5_set_X5_put : GoodIn wsX5_set (va_wsS RX5 155 yX5_put wsX5_put) := goodIn_app (goodIn_of _ (by decide +kernel)) ggX5_set_X5_put
theorem dX5_set_0 : decode cX5_set 0 = .ok (.iload_n 1, 1) := by decide +kernel
theorem dX5_set_1 : decode cX5_set 1 = .ok (.iconst 0, 1) := by decide +kernel
theorem dX5_set_2 : decode cX5_set 2 = .ok (.iconst 5, 1) := by decide +kernel
theorem dX5_set_3 : decode cX5_set 3 = .ok (.invokestatic 37, 3) := by decide +kernel
theorem dX5_set_6 : decode cX5_set 6 = .ok (.invokestatic 121, 3) := by decide +kernel
theorem dX5_set_9 : decode cX5_set 9 = .ok (.iload_n 2, 1) := by decide +kernel
theorem dX5_set_10 : decode cX5_set 10 = .ok (.getstatic 146, 3) := by decide +kernel
theorem dX5_set_13 : decode cX5_set 13 = .ok (.iload_n 1, 1) := by decide +kernel
theorem dX5_set_14 : decode cX5_set 14 = .ok (.invokestatic 93, 3) := by decide +kernel
theorem dX5_set_17 : decode cX5_set 17 = .ok (.getstatic 149, 3) := by decide +kernel
theorem dX5_set_20 : decode cX5_set 20 = .ok (.iload_n 1, 1) := by decide +kernel
theorem dX5_set_21 : decode cX5_set 21 = .ok (.invokestatic 93, 3) := by decide +kernel
theorem dX5_set_24 : decode cX5_set 24 = .ok (.invokestatic 37, 3) := by decide +kernel
theorem dX5_set_27 : decode cX5_set 27 = .ok (.invokestatic 41, 3) := by decide +kernel
theorem dX5_set_30 : decode cX5_set 30 = .ok (.aload_n 0, 1) := by decide +kernel
theorem dX5_set_31 : decode cX5_set 31 = .ok (.getfield 22, 3) := by decide +kernel
theorem dX5_set_34 : decode cX5_set 34 = .ok (.aload_n 0, 1) := by decide +kernel
theorem dX5_set_35 : decode cX5_set 35 = .ok (.getfield 10, 3) := by decide +kernel
theorem dX5_set_38 : decode cX5_set 38 = .ok (.invokevirtual 58, 3) := by decide +kernel
theorem dX5_set_41 : decode cX5_set 41 = .ok (.aload_n 0, 1) := by decide +kernel
