theorem wsL_law_x0 : ∀ w ∈ (vx_atS RX5 252 "java/lang/IllegalArgumentException" ["java/lang/RuntimeException", "java/lang/Exception"]).filter goodWord, w ∈ lw_tbl := by decide +kernel
theorem wsL_law_x1 : ∀ w ∈ (vx_atS RX5 243 "java/lang/IndexOutOfBoundsException" ["java/lang/RuntimeException", "java/lang/Exception"]).filter goodWord, w ∈ lw_tbl := by decide +kernel
theorem wsL_law_x2 : ∀ w ∈ (vx_atS RX5 257 "java/lang/IllegalStateException" ["java/lang/RuntimeException", "java/lang/Exception"]).filter goodWord, w ∈ lw_tbl := by decide +kernel
theorem wsL_law_in : ∀ w ∈ wsL_law, w ∈ lw_tbl := fun w h => (List.mem_append.mp h).elim (fun h => (List.mem_append.mp h).elim (fun h => (List.mem_append.mp h).elim (fun h => wsL_law_in0 w h) (fun h => wsL_law_x0 w h)) (fun h => wsL_law_x1 w h)) (fun h => wsL_law_x2 w h)
theorem inlX0 : ∀ w ∈ wsX00, w ∈ wsL_law := fun _ h => List.mem_append_left _ (List.mem_append_left _ (List.mem_append_left _ (List.mem_append_left _ (List.mem_append_left _ (List.mem_append_left _ (List.mem_append_left _ (List.mem_append_left _ (List.mem_append_right _ h))))))))
theorem inX0 : ∀ w ∈ wsX00, w ∈ lw_tbl := fun w h => wsL_law_in w (inlX0 w h)
theorem inlX1 : ∀ w ∈ wsX10, w ∈ wsL_law := fun _ h => List.mem_append_left _ (List.mem_append_left _ (List.mem_append_left _ (List.mem_append_left _ (List.mem_append_left _ (List.mem_append_right _ h)))))
theorem inX1 : ∀ w ∈ wsX10, w ∈ lw_tbl := fun w h => wsL_law_in w (inlX1 w h)
theorem inlX2 : ∀ w ∈ wsX20, w ∈ wsL_law := fun _ h => List.mem_append_left _ (List.mem_append_left _ (List.mem_append_left _ (List.mem_append_left _ (List.mem_append_left _ (List.mem_append_left _ (List.mem_append_left _ (List.mem_append_right _ h)))))))
theorem inX2 : ∀ w ∈ wsX20, w ∈ lw_tbl := fun w h => wsL_law_in w (inlX2 w h)
theorem inlX3 : ∀ w ∈ wsX30, w ∈ wsL_law := fun _ h => List.mem_append_left _ (List.mem_append_left _ (List.mem_append_left _ (List.mem_append_left _ (List.mem_append_right _ h))))
theorem inX3 : ∀ w ∈ wsX30, w ∈ lw_tbl := fun w h => wsL_law_in w (inlX3 w h)
theorem inlX4 : ∀ w ∈ wsX40, w ∈ wsL_law := fun _ h => List.mem_append_left _ (List.mem_append_left _ (List.mem_append_left _ (List.mem_append_left _ (List.mem_append_left _ (List.mem_append_left _ (List.mem_append_right _ h))))))
theorem inX4 : ∀ w ∈ wsX40, w ∈ lw_tbl := fun w h => wsL_law_in w (inlX4 w h)
theorem inlX5 : ∀ w ∈ wsX50, w ∈ wsL_law := fun _ h => List.mem_append_left _ (List.mem_append_left _ (List.mem_append_left _ (List.mem_append_left _ (List.mem_append_left _ (List.mem_append_left _ (List.mem_append_left _ (List.mem_append_left _ (List.mem_append_left _ (List.mem_append_right _ h)))))))))
theorem inX5 : ∀ w ∈ wsX50, w ∈ lw_tbl := fun w h => wsL_law_in w (inlX5 w h)
theorem inX6 : ∀ w ∈ wsX60, w ∈ lw_tbl := by decide +kernel
theorem inJ9 : ∀ w ∈ wsJ90, w ∈ lw_tbl := by decide +kernel
theorem inJ0 : ∀ w ∈ wsJ00, w ∈ lw_tbl := by decide +kernel
theorem inJ10 : ∀ w ∈ wsJ100, w ∈ lw_tbl := by decide +kernel
set_option maxRecDepth 20000 in
theorem ggX0_init_X1_init : GoodIn wsX0_init wsX1_init := goodIn_r _ [17, 18, 2, 3, 12, 19, 20, 21, 22, 23, 24, 25, 26, 43, 44, 45, 46, 47, 48, 49, 50, 51] (by decide +kernel) (by decide +kernel)
set_option maxRecDepth 20000 in
theorem gX0_init_X1_init_n11 : GoodIn wsX0_init (wsX1_init) := ggX0_init_X1_init
set_option maxRecDepth 20000 in
theorem ggX0_init_X3_init : GoodIn wsX0_init wsX3_init := goodIn_r _ [28, 29, 2, 3, 12, 30, 31, 64, 65] (by decide +kernel) (by decide +kernel)
set_option maxRecDepth 20000 in
theorem gX0_init_X3_init_n20 : GoodIn wsX0_init (wsX3_init) := ggX0_init_X3_init
set_option maxRecDepth 20000 in
theorem ggX0_init_X5_copyRow : GoodIn wsX0_init wsX5_copyRow := goodIn_r _ [34, 35, 36, 37, 38, 39, 40, 41, 42] (by decide +kernel) (by decide +kernel)
set_option maxRecDepth 20000 in
theorem gX0_init_X5_copyRow_n39 : GoodIn wsX0_init (wsX5_copyRow) := ggX0_init_X5_copyRow
theorem dX0_init_0 : decode cX0_init 0 = .ok (.aload_n 0, 1) := by decide +kernel
theorem dX0_init_1 : decode cX0_init 1 = .ok (.invokespecial 3, 3) := by decide +kernel
theorem dX0_init_4 : decode cX0_init 4 = .ok (.aload_n 0, 1) := by decide +kernel
theorem dX0_init_5 : decode cX0_init 5 = .ok (.new 9, 3) := by decide +kernel
theorem dX0_init_8 : decode cX0_init 8 = .ok (.dup, 1) := by decide +kernel
theorem dX0_init_9 : decode cX0_init 9 = .ok (.invokespecial 11, 3) := by decide +kernel
theorem dX0_init_12 : decode cX0_init 12 = .ok (.putfield 12, 3) := by decide +kernel
theorem dX0_init_15 : decode cX0_init 15 = .ok (.aload_n 0, 1) := by decide +kernel
theorem dX0_init_16 : decode cX0_init 16 = .ok (.new 18, 3) := by decide +kernel
theorem dX0_init_19 : decode cX0_init 19 = .ok (.dup, 1) := by decide +kernel
theorem dX0_init_20 : decode cX0_init 20 = .ok (.invokespecial 20, 3) := by decide +kernel
theorem dX0_init_23 : decode cX0_init 23 = .ok (.putfield 21, 3) := by decide +kernel
theorem dX0_init_26 : decode cX0_init 26 = .ok (.aload_n 0, 1) := by decide +kernel
theorem dX0_init_27 : decode cX0_init 27 = .ok (.bipush 6, 2) := by decide +kernel
theorem dX0_init_29 : decode cX0_init 29 = .ok (.newarray .int, 2) := by decide +kernel
theorem dX0_init_31 : decode cX0_init 31 = .ok (.putfield 25, 3) := by decide +kernel
theorem dX0_init_34 : decode cX0_init 34 = .ok (.aload_n 0, 1) := by decide +kernel
theorem dX0_init_35 : decode cX0_init 35 = .ok (.iconst (-1), 1) := by decide +kernel
theorem dX0_init_36 : decode cX0_init 36 = .ok (.putfield 29, 3) := by decide +kernel
theorem dX0_init_39 : decode cX0_init 39 = .ok (.aload_n 0, 1) := by decide +kernel
theorem dX0_init_40 : decode cX0_init 40 = .ok (.iconst (-1), 1) := by decide +kernel
theorem dX0_init_41 : decode cX0_init 41 = .ok (.putfield 33, 3) := by decide +kernel
theorem dX0_init_44 : decode cX0_init 44 = .ok (.getstatic 36, 3) := by decide +kernel
theorem dX0_init_47 : decode cX0_init 47 = .ok (.aload_n 0, 1) := by decide +kernel
theorem dX0_init_48 : decode cX0_init 48 = .ok (.getfield 25, 3) := by decide +kernel
theorem dX0_init_51 : decode cX0_init 51 = .ok (.invokestatic 39, 3) := by decide +kernel
theorem dX0_init_54 : decode cX0_init 54 = .ok (.return_, 1) := by decide +kernel
set_option maxRecDepth 20000 in
theorem ggX0_welcome_X1_takeIn : GoodIn wsX0_welcome wsX1_takeIn := goodIn_r _ [7, 8, 9, 10, 11, 12, 13, 14, 15, 16, 17, 18, 19, 32, 33, 34, 35, 36, 37, 38, 39, 40] (by decide +kernel) (by decide +kernel)
set_option maxRecDepth 20000 in
theorem gX0_welcome_X1_takeIn_n49 : GoodIn wsX0_welcome (wsX1_takeIn) := ggX0_welcome_X1_takeIn
theorem dX0_welcome_0 : decode cX0_welcome 0 = .ok (.aload_n 0, 1) := by decide +kernel
theorem dX0_welcome_1 : decode cX0_welcome 1 = .ok (.dup, 1) := by decide +kernel
theorem dX0_welcome_2 : decode cX0_welcome 2 = .ok (.getfield 43, 3) := by decide +kernel
theorem dX0_welcome_5 : decode cX0_welcome 5 = .ok (.iload_n 3, 1) := by decide +kernel
theorem dX0_welcome_6 : decode cX0_welcome 6 = .ok (.iadd, 1) := by decide +kernel
theorem dX0_welcome_7 : decode cX0_welcome 7 = .ok (.putfield 43, 3) := by decide +kernel
theorem dX0_welcome_10 : decode cX0_welcome 10 = .ok (.aload_n 0, 1) := by decide +kernel
theorem dX0_welcome_11 : decode cX0_welcome 11 = .ok (.dup, 1) := by decide +kernel
theorem dX0_welcome_12 : decode cX0_welcome 12 = .ok (.getfield 46, 3) := by decide +kernel
theorem dX0_welcome_15 : decode cX0_welcome 15 = .ok (.iload_n 2, 1) := by decide +kernel
theorem dX0_welcome_16 : decode cX0_welcome 16 = .ok (.iadd, 1) := by decide +kernel
theorem dX0_welcome_17 : decode cX0_welcome 17 = .ok (.putfield 46, 3) := by decide +kernel
theorem dX0_welcome_20 : decode cX0_welcome 20 = .ok (.aload_n 0, 1) := by decide +kernel
theorem dX0_welcome_21 : decode cX0_welcome 21 = .ok (.getfield 12, 3) := by decide +kernel
theorem dX0_welcome_24 : decode cX0_welcome 24 = .ok (.iload_n 1, 1) := by decide +kernel
theorem dX0_welcome_25 : decode cX0_welcome 25 = .ok (.iload_n 2, 1) := by decide +kernel
theorem dX0_welcome_26 : decode cX0_welcome 26 = .ok (.iload_n 3, 1) := by decide +kernel
theorem dX0_welcome_27 : decode cX0_welcome 27 = .ok (.invokevirtual 49, 3) := by decide +kernel
theorem dX0_welcome_30 : decode cX0_welcome 30 = .ok (.ireturn, 1) := by decide +kernel
set_option maxRecDepth 20000 in
theorem ggX0_canGo_X1_wornCoat : GoodIn wsX0_canGo wsX1_wornCoat := goodIn_r _ [6, 7, 8, 9, 10, 11, 38, 39, 40, 41, 42, 43, 44, 45, 46] (by decide +kernel) (by decide +kernel)
set_option maxRecDepth 20000 in
theorem gX0_canGo_X1_wornCoat_n53 : GoodIn wsX0_canGo (wsX1_wornCoat) := ggX0_canGo_X1_wornCoat
set_option maxRecDepth 20000 in
theorem ggX0_canGo_X1_isIn : GoodIn wsX0_canGo wsX1_isIn := goodIn_r _ [14, 15, 9, 10, 11, 38, 39, 40, 41, 42, 43, 44, 45, 46] (by decide +kernel) (by decide +kernel)
set_option maxRecDepth 20000 in
theorem gX0_canGo_X1_isIn_n57 : GoodIn wsX0_canGo (wsX1_isIn) := ggX0_canGo_X1_isIn
set_option maxRecDepth 20000 in
theorem ggX0_canGo_X3_gateOf : GoodIn wsX0_canGo wsX3_gateOf := goodIn_r _ [19, 20, 21, 22, 17, 23, 24, 25, 9, 10, 11, 47, 48] (by decide +kernel) (by decide +kernel)
set_option maxRecDepth 20000 in
theorem gX0_canGo_X3_gateOf_n61 : GoodIn wsX0_canGo (wsX3_gateOf) := ggX0_canGo_X3_gateOf
theorem dX0_canGo_0 : decode cX0_canGo 0 = .ok (.aload_n 0, 1) := by decide +kernel
theorem dX0_canGo_1 : decode cX0_canGo 1 = .ok (.getfield 12, 3) := by decide +kernel
theorem dX0_canGo_4 : decode cX0_canGo 4 = .ok (.iload_n 1, 1) := by decide +kernel
theorem dX0_canGo_5 : decode cX0_canGo 5 = .ok (.invokevirtual 53, 3) := by decide +kernel
theorem dX0_canGo_8 : decode cX0_canGo 8 = .ok (.iload_n 1, 1) := by decide +kernel
theorem dX0_canGo_9 : decode cX0_canGo 9 = .ok (.if_icmp .ne 30, 3) := by decide +kernel
theorem dX0_canGo_12 : decode cX0_canGo 12 = .ok (.aload_n 0, 1) := by decide +kernel
theorem dX0_canGo_13 : decode cX0_canGo 13 = .ok (.getfield 12, 3) := by decide +kernel
theorem dX0_canGo_16 : decode cX0_canGo 16 = .ok (.iload_n 1, 1) := by decide +kernel
theorem dX0_canGo_17 : decode cX0_canGo 17 = .ok (.invokevirtual 57, 3) := by decide +kernel
theorem dX0_canGo_20 : decode cX0_canGo 20 = .ok (.ifCond .ne 19, 3) := by decide +kernel
theorem dX0_canGo_23 : decode cX0_canGo 23 = .ok (.aload_n 0, 1) := by decide +kernel
theorem dX0_canGo_24 : decode cX0_canGo 24 = .ok (.getfield 21, 3) := by decide +kernel
theorem dX0_canGo_27 : decode cX0_canGo 27 = .ok (.iload_n 1, 1) := by decide +kernel
theorem dX0_canGo_28 : decode cX0_canGo 28 = .ok (.invokevirtual 61, 3) := by decide +kernel
theorem dX0_canGo_31 : decode cX0_canGo 31 = .ok (.iconst (-1), 1) := by decide +kernel
theorem dX0_canGo_32 : decode cX0_canGo 32 = .ok (.if_icmp .ne 7, 3) := by decide +kernel
theorem dX0_canGo_35 : decode cX0_canGo 35 = .ok (.iconst 1, 1) := by decide +kernel
theorem dX0_canGo_36 : decode cX0_canGo 36 = .ok (.goto 4, 3) := by decide +kernel
theorem dX0_canGo_39 : decode cX0_canGo 39 = .ok (.iconst 0, 1) := by decide +kernel
theorem dX0_canGo_40 : decode cX0_canGo 40 = .ok (.ireturn, 1) := by decide +kernel
set_option maxRecDepth 20000 in
theorem ggX0_letGo_X5_at : GoodIn wsX0_letGo wsX5_at := goodIn_r _ [7] (by decide +kernel) (by decide +kernel)
set_option maxRecDepth 20000 in
theorem gX0_letGo_X5_at_n67 : GoodIn wsX0_letGo (wsX5_at) := ggX0_letGo_X5_at
set_option maxRecDepth 20000 in
theorem ggX0_letGo_X1_takeOut : GoodIn wsX0_letGo wsX1_takeOut := goodIn_r _ [11, 12, 13, 14, 15, 16, 17, 18, 19, 20, 21, 22, 23, 9, 24, 5, 6, 7, 25, 26, 27, 28, 29, 47, 48, 49, 50, 51, 52, 53, 54, 55] (by decide +kernel) (by decide +kernel)
set_option maxRecDepth 20000 in
theorem gX0_letGo_X1_takeOut_n77 : GoodIn wsX0_letGo (wsX1_takeOut) := ggX0_letGo_X1_takeOut
set_option maxRecDepth 20000 in
theorem ggX0_letGo_X3_renumberWithout : GoodIn wsX0_letGo wsX3_renumberWithout := goodIn_r _ [33, 34, 5, 6, 7, 28, 9, 29, 25, 26, 56, 57] (by decide +kernel) (by decide +kernel)
set_option maxRecDepth 20000 in
theorem gX0_letGo_X3_renumberWithout_n81 : GoodIn wsX0_letGo (wsX3_renumberWithout) := ggX0_letGo_X3_renumberWithout
theorem dX0_letGo_0 : decode cX0_letGo 0 = .ok (.aload_n 0, 1) := by decide +kernel
theorem dX0_letGo_1 : decode cX0_letGo 1 = .ok (.getfield 12, 3) := by decide +kernel
theorem dX0_letGo_4 : decode cX0_letGo 4 = .ok (.getfield 64, 3) := by decide +kernel
theorem dX0_letGo_7 : decode cX0_letGo 7 = .ok (.iload_n 1, 1) := by decide +kernel
theorem dX0_letGo_8 : decode cX0_letGo 8 = .ok (.invokestatic 67, 3) := by decide +kernel
theorem dX0_letGo_11 : decode cX0_letGo 11 = .ok (.istore_n 2, 1) := by decide +kernel
theorem dX0_letGo_12 : decode cX0_letGo 12 = .ok (.aload_n 0, 1) := by decide +kernel
theorem dX0_letGo_13 : decode cX0_letGo 13 = .ok (.dup, 1) := by decide +kernel
theorem dX0_letGo_14 : decode cX0_letGo 14 = .ok (.getfield 43, 3) := by decide +kernel
theorem dX0_letGo_17 : decode cX0_letGo 17 = .ok (.aload_n 0, 1) := by decide +kernel
theorem dX0_letGo_18 : decode cX0_letGo 18 = .ok (.getfield 12, 3) := by decide +kernel
theorem dX0_letGo_21 : decode cX0_letGo 21 = .ok (.getfield 71, 3) := by decide +kernel
theorem dX0_letGo_24 : decode cX0_letGo 24 = .ok (.iload_n 1, 1) := by decide +kernel
theorem dX0_letGo_25 : decode cX0_letGo 25 = .ok (.invokestatic 67, 3) := by decide +kernel
theorem dX0_letGo_28 : decode cX0_letGo 28 = .ok (.isub, 1) := by decide +kernel
theorem dX0_letGo_29 : decode cX0_letGo 29 = .ok (.putfield 43, 3) := by decide +kernel
theorem dX0_letGo_32 : decode cX0_letGo 32 = .ok (.aload_n 0, 1) := by decide +kernel
theorem dX0_letGo_33 : decode cX0_letGo 33 = .ok (.dup, 1) := by decide +kernel
theorem dX0_letGo_34 : decode cX0_letGo 34 = .ok (.getfield 46, 3) := by decide +kernel
theorem dX0_letGo_37 : decode cX0_letGo 37 = .ok (.aload_n 0, 1) := by decide +kernel
theorem dX0_letGo_38 : decode cX0_letGo 38 = .ok (.getfield 12, 3) := by decide +kernel
theorem dX0_letGo_41 : decode cX0_letGo 41 = .ok (.getfield 74, 3) := by decide +kernel
theorem dX0_letGo_44 : decode cX0_letGo 44 = .ok (.iload_n 1, 1) := by decide +kernel
theorem dX0_letGo_45 : decode cX0_letGo 45 = .ok (.invokestatic 67, 3) := by decide +kernel
theorem dX0_letGo_48 : decode cX0_letGo 48 = .ok (.isub, 1) := by decide +kernel
theorem dX0_letGo_49 : decode cX0_letGo 49 = .ok (.putfield 46, 3) := by decide +kernel
theorem dX0_letGo_52 : decode cX0_letGo 52 = .ok (.aload_n 0, 1) := by decide +kernel
theorem dX0_letGo_53 : decode cX0_letGo 53 = .ok (.getfield 12, 3) := by decide +kernel
theorem dX0_letGo_56 : decode cX0_letGo 56 = .ok (.iload_n 1, 1) := by decide +kernel
theorem dX0_letGo_57 : decode cX0_letGo 57 = .ok (.invokevirtual 77, 3) := by decide +kernel
theorem dX0_letGo_60 : decode cX0_letGo 60 = .ok (.aload_n 0, 1) := by decide +kernel
theorem dX0_letGo_61 : decode cX0_letGo 61 = .ok (.getfield 21, 3) := by decide +kernel
theorem dX0_letGo_64 : decode cX0_letGo 64 = .ok (.iload_n 1, 1) := by decide +kernel
theorem dX0_letGo_65 : decode cX0_letGo 65 = .ok (.invokevirtual 81, 3) := by decide +kernel
theorem dX0_letGo_68 : decode cX0_letGo 68 = .ok (.iload_n 2, 1) := by decide +kernel
theorem dX0_letGo_69 : decode cX0_letGo 69 = .ok (.ireturn, 1) := by decide +kernel
set_option maxRecDepth 20000 in
theorem ggX0_giveWages_X5_at : GoodIn wsX0_giveWages wsX5_at := goodIn_r _ [9] (by decide +kernel) (by decide +kernel)
set_option maxRecDepth 20000 in
theorem gX0_giveWages_X5_at_n67 : GoodIn wsX0_giveWages (wsX5_at) := ggX0_giveWages_X5_at
set_option maxRecDepth 20000 in
theorem ggX0_giveWages_X5_put : GoodIn wsX0_giveWages wsX5_put := goodIn_r _ [11] (by decide +kernel) (by decide +kernel)
set_option maxRecDepth 20000 in
theorem gX0_giveWages_X5_put_n90 : GoodIn wsX0_giveWages (wsX5_put) := ggX0_giveWages_X5_put
theorem dX0_giveWages_0 : decode cX0_giveWages 0 = .ok (.aload_n 0, 1) := by decide +kernel
theorem dX0_giveWages_1 : decode cX0_giveWages 1 = .ok (.getfield 12, 3) := by decide +kernel
theorem dX0_giveWages_4 : decode cX0_giveWages 4 = .ok (.getfield 71, 3) := by decide +kernel
theorem dX0_giveWages_7 : decode cX0_giveWages 7 = .ok (.iload_n 1, 1) := by decide +kernel
theorem dX0_giveWages_8 : decode cX0_giveWages 8 = .ok (.invokestatic 67, 3) := by decide +kernel
theorem dX0_giveWages_11 : decode cX0_giveWages 11 = .ok (.istore_n 3, 1) := by decide +kernel
theorem dX0_giveWages_12 : decode cX0_giveWages 12 = .ok (.iload_n 3, 1) := by decide +kernel
theorem dX0_giveWages_13 : decode cX0_giveWages 13 = .ok (.iload_n 2, 1) := by decide +kernel
theorem dX0_giveWages_14 : decode cX0_giveWages 14 = .ok (.iadd, 1) := by decide +kernel
theorem dX0_giveWages_15 : decode cX0_giveWages 15 = .ok (.sipush 999, 3) := by decide +kernel
theorem dX0_giveWages_18 : decode cX0_giveWages 18 = .ok (.invokestatic 84, 3) := by decide +kernel
theorem dX0_giveWages_21 : decode cX0_giveWages 21 = .ok (.istore 4, 2) := by decide +kernel
theorem dX0_giveWages_23 : decode cX0_giveWages 23 = .ok (.aload_n 0, 1) := by decide +kernel
theorem dX0_giveWages_24 : decode cX0_giveWages 24 = .ok (.getfield 12, 3) := by decide +kernel
theorem dX0_giveWages_27 : decode cX0_giveWages 27 = .ok (.getfield 71, 3) := by decide +kernel
theorem dX0_giveWages_30 : decode cX0_giveWages 30 = .ok (.iload_n 1, 1) := by decide +kernel
theorem dX0_giveWages_31 : decode cX0_giveWages 31 = .ok (.iload 4, 2) := by decide +kernel
theorem dX0_giveWages_33 : decode cX0_giveWages 33 = .ok (.invokestatic 90, 3) := by decide +kernel
theorem dX0_giveWages_36 : decode cX0_giveWages 36 = .ok (.aload_n 0, 1) := by decide +kernel
theorem dX0_giveWages_37 : decode cX0_giveWages 37 = .ok (.dup, 1) := by decide +kernel
theorem dX0_giveWages_38 : decode cX0_giveWages 38 = .ok (.getfield 43, 3) := by decide +kernel
theorem dX0_giveWages_41 : decode cX0_giveWages 41 = .ok (.iload 4, 2) := by decide +kernel
theorem dX0_giveWages_43 : decode cX0_giveWages 43 = .ok (.iload_n 3, 1) := by decide +kernel
theorem dX0_giveWages_44 : decode cX0_giveWages 44 = .ok (.isub, 1) := by decide +kernel
theorem dX0_giveWages_45 : decode cX0_giveWages 45 = .ok (.iadd, 1) := by decide +kernel
theorem dX0_giveWages_46 : decode cX0_giveWages 46 = .ok (.putfield 43, 3) := by decide +kernel
theorem dX0_giveWages_49 : decode cX0_giveWages 49 = .ok (.iload 4, 2) := by decide +kernel
theorem dX0_giveWages_51 : decode cX0_giveWages 51 = .ok (.ireturn, 1) := by decide +kernel
set_option maxRecDepth 20000 in
theorem ggX0_reasonNoMask_X5_at : GoodIn wsX0_reasonNoMask wsX5_at := goodIn_r _ [4] (by decide +kernel) (by decide +kernel)
set_option maxRecDepth 20000 in
theorem gX0_reasonNoMask_X5_at_n67 : GoodIn wsX0_reasonNoMask (wsX5_at) := ggX0_reasonNoMask_X5_at
theorem dX0_reasonNoMask_0 : decode cX0_reasonNoMask 0 = .ok (.aload_n 0, 1) := by decide +kernel
theorem dX0_reasonNoMask_1 : decode cX0_reasonNoMask 1 = .ok (.getfield 12, 3) := by decide +kernel
theorem dX0_reasonNoMask_4 : decode cX0_reasonNoMask 4 = .ok (.getfield 94, 3) := by decide +kernel
theorem dX0_reasonNoMask_7 : decode cX0_reasonNoMask 7 = .ok (.iload_n 1, 1) := by decide +kernel
theorem dX0_reasonNoMask_8 : decode cX0_reasonNoMask 8 = .ok (.invokestatic 67, 3) := by decide +kernel
theorem dX0_reasonNoMask_11 : decode cX0_reasonNoMask 11 = .ok (.ifCond .le 6, 3) := by decide +kernel
theorem dX0_reasonNoMask_14 : decode cX0_reasonNoMask 14 = .ok (.bipush 8, 2) := by decide +kernel
theorem dX0_reasonNoMask_16 : decode cX0_reasonNoMask 16 = .ok (.ireturn, 1) := by decide +kernel
theorem dX0_reasonNoMask_17 : decode cX0_reasonNoMask 17 = .ok (.aload_n 0, 1) := by decide +kernel
theorem dX0_reasonNoMask_18 : decode cX0_reasonNoMask 18 = .ok (.getfield 12, 3) := by decide +kernel
theorem dX0_reasonNoMask_21 : decode cX0_reasonNoMask 21 = .ok (.getfield 71, 3) := by decide +kernel
theorem dX0_reasonNoMask_24 : decode cX0_reasonNoMask 24 = .ok (.iload_n 1, 1) := by decide +kernel
theorem dX0_reasonNoMask_25 : decode cX0_reasonNoMask 25 = .ok (.invokestatic 67, 3) := by decide +kernel
theorem dX0_reasonNoMask_28 : decode cX0_reasonNoMask 28 = .ok (.iconst 3, 1) := by decide +kernel
theorem dX0_reasonNoMask_29 : decode cX0_reasonNoMask 29 = .ok (.if_icmp .ge 8, 3) := by decide +kernel
theorem dX0_reasonNoMask_32 : decode cX0_reasonNoMask 32 = .ok (.bipush 9, 2) := by decide +kernel
theorem dX0_reasonNoMask_34 : decode cX0_reasonNoMask 34 = .ok (.goto 4, 3) := by decide +kernel
theorem dX0_reasonNoMask_37 : decode cX0_reasonNoMask 37 = .ok (.iconst 0, 1) := by decide +kernel
theorem dX0_reasonNoMask_38 : decode cX0_reasonNoMask 38 = .ok (.ireturn, 1) := by decide +kernel
set_option maxRecDepth 20000 in
theorem ggX0_takeMask_X1_payFromPurse : GoodIn wsX0_takeMask wsX1_payFromPurse := goodIn_r _ [7, 8, 9, 10, 11, 12, 13, 26, 27, 28, 29, 30, 31, 32, 33, 34] (by decide +kernel) (by decide +kernel)
set_option maxRecDepth 20000 in
theorem gX0_takeMask_X1_payFromPurse_n100 : GoodIn wsX0_takeMask (wsX1_payFromPurse) := ggX0_takeMask_X1_payFromPurse
set_option maxRecDepth 20000 in
theorem ggX0_takeMask_X5_at : GoodIn wsX0_takeMask wsX5_at := goodIn_r _ [11] (by decide +kernel) (by decide +kernel)
set_option maxRecDepth 20000 in
theorem gX0_takeMask_X5_at_n67 : GoodIn wsX0_takeMask (wsX5_at) := ggX0_takeMask_X5_at
set_option maxRecDepth 20000 in
theorem ggX0_takeMask_X5_put : GoodIn wsX0_takeMask wsX5_put := goodIn_r _ [13] (by decide +kernel) (by decide +kernel)
set_option maxRecDepth 20000 in
theorem gX0_takeMask_X5_put_n90 : GoodIn wsX0_takeMask (wsX5_put) := ggX0_takeMask_X5_put
theorem dX0_takeMask_0 : decode cX0_takeMask 0 = .ok (.aload_n 0, 1) := by decide +kernel
theorem dX0_takeMask_1 : decode cX0_takeMask 1 = .ok (.dup, 1) := by decide +kernel
theorem dX0_takeMask_2 : decode cX0_takeMask 2 = .ok (.getfield 97, 3) := by decide +kernel
theorem dX0_takeMask_5 : decode cX0_takeMask 5 = .ok (.aload_n 0, 1) := by decide +kernel
theorem dX0_takeMask_6 : decode cX0_takeMask 6 = .ok (.getfield 12, 3) := by decide +kernel
theorem dX0_takeMask_9 : decode cX0_takeMask 9 = .ok (.iload_n 1, 1) := by decide +kernel
theorem dX0_takeMask_10 : decode cX0_takeMask 10 = .ok (.iconst 3, 1) := by decide +kernel
theorem dX0_takeMask_11 : decode cX0_takeMask 11 = .ok (.invokevirtual 100, 3) := by decide +kernel
theorem dX0_takeMask_14 : decode cX0_takeMask 14 = .ok (.iadd, 1) := by decide +kernel
theorem dX0_takeMask_15 : decode cX0_takeMask 15 = .ok (.putfield 97, 3) := by decide +kernel
theorem dX0_takeMask_18 : decode cX0_takeMask 18 = .ok (.aload_n 0, 1) := by decide +kernel
theorem dX0_takeMask_19 : decode cX0_takeMask 19 = .ok (.getfield 12, 3) := by decide +kernel
theorem dX0_takeMask_22 : decode cX0_takeMask 22 = .ok (.getfield 94, 3) := by decide +kernel
theorem dX0_takeMask_25 : decode cX0_takeMask 25 = .ok (.iload_n 1, 1) := by decide +kernel
theorem dX0_takeMask_26 : decode cX0_takeMask 26 = .ok (.aload_n 0, 1) := by decide +kernel
theorem dX0_takeMask_27 : decode cX0_takeMask 27 = .ok (.getfield 25, 3) := by decide +kernel
theorem dX0_takeMask_30 : decode cX0_takeMask 30 = .ok (.iconst 4, 1) := by decide +kernel
theorem dX0_takeMask_31 : decode cX0_takeMask 31 = .ok (.invokestatic 67, 3) := by decide +kernel
theorem dX0_takeMask_34 : decode cX0_takeMask 34 = .ok (.invokestatic 90, 3) := by decide +kernel
theorem dX0_takeMask_37 : decode cX0_takeMask 37 = .ok (.return_, 1) := by decide +kernel
set_option maxRecDepth 20000 in
theorem ggX0_payDebts_X5_at : GoodIn wsX0_payDebts wsX5_at := goodIn_r _ [9] (by decide +kernel) (by decide +kernel)
set_option maxRecDepth 20000 in
theorem gX0_payDebts_X5_at_n67 : GoodIn wsX0_payDebts (wsX5_at) := ggX0_payDebts_X5_at
set_option maxRecDepth 20000 in
theorem ggX0_payDebts_X1_payFromPurse : GoodIn wsX0_payDebts wsX1_payFromPurse := goodIn_r _ [13, 14, 7, 8, 9, 15, 16, 29, 30, 31, 32, 33, 34, 35, 36, 37] (by decide +kernel) (by decide +kernel)
set_option maxRecDepth 20000 in
theorem gX0_payDebts_X1_payFromPurse_n100 : GoodIn wsX0_payDebts (wsX1_payFromPurse) := ggX0_payDebts_X1_payFromPurse
set_option maxRecDepth 20000 in
theorem ggX0_payDebts_X5_put : GoodIn wsX0_payDebts wsX5_put := goodIn_r _ [16] (by decide +kernel) (by decide +kernel)
set_option maxRecDepth 20000 in
theorem gX0_payDebts_X5_put_n90 : GoodIn wsX0_payDebts (wsX5_put) := ggX0_payDebts_X5_put
theorem dX0_payDebts_0 : decode cX0_payDebts 0 = .ok (.aload_n 0, 1) := by decide +kernel
theorem dX0_payDebts_1 : decode cX0_payDebts 1 = .ok (.getfield 12, 3) := by decide +kernel
theorem dX0_payDebts_4 : decode cX0_payDebts 4 = .ok (.getfield 64, 3) := by decide +kernel
theorem dX0_payDebts_7 : decode cX0_payDebts 7 = .ok (.iload_n 1, 1) := by decide +kernel
theorem dX0_payDebts_8 : decode cX0_payDebts 8 = .ok (.invokestatic 67, 3) := by decide +kernel
theorem dX0_payDebts_11 : decode cX0_payDebts 11 = .ok (.istore_n 2, 1) := by decide +kernel
theorem dX0_payDebts_12 : decode cX0_payDebts 12 = .ok (.iload_n 2, 1) := by decide +kernel
theorem dX0_payDebts_13 : decode cX0_payDebts 13 = .ok (.aload_n 0, 1) := by decide +kernel
theorem dX0_payDebts_14 : decode cX0_payDebts 14 = .ok (.getfield 12, 3) := by decide +kernel
theorem dX0_payDebts_17 : decode cX0_payDebts 17 = .ok (.getfield 71, 3) := by decide +kernel
theorem dX0_payDebts_20 : decode cX0_payDebts 20 = .ok (.iload_n 1, 1) := by decide +kernel
theorem dX0_payDebts_21 : decode cX0_payDebts 21 = .ok (.invokestatic 67, 3) := by decide +kernel
theorem dX0_payDebts_24 : decode cX0_payDebts 24 = .ok (.invokestatic 84, 3) := by decide +kernel
theorem dX0_payDebts_27 : decode cX0_payDebts 27 = .ok (.istore_n 3, 1) := by decide +kernel
theorem dX0_payDebts_28 : decode cX0_payDebts 28 = .ok (.aload_n 0, 1) := by decide +kernel
theorem dX0_payDebts_29 : decode cX0_payDebts 29 = .ok (.dup, 1) := by decide +kernel
theorem dX0_payDebts_30 : decode cX0_payDebts 30 = .ok (.getfield 97, 3) := by decide +kernel
theorem dX0_payDebts_33 : decode cX0_payDebts 33 = .ok (.aload_n 0, 1) := by decide +kernel
theorem dX0_payDebts_34 : decode cX0_payDebts 34 = .ok (.getfield 12, 3) := by decide +kernel
theorem dX0_payDebts_37 : decode cX0_payDebts 37 = .ok (.iload_n 1, 1) := by decide +kernel
theorem dX0_payDebts_38 : decode cX0_payDebts 38 = .ok (.iload_n 3, 1) := by decide +kernel
theorem dX0_payDebts_39 : decode cX0_payDebts 39 = .ok (.invokevirtual 100, 3) := by decide +kernel
theorem dX0_payDebts_42 : decode cX0_payDebts 42 = .ok (.iadd, 1) := by decide +kernel
theorem dX0_payDebts_43 : decode cX0_payDebts 43 = .ok (.putfield 97, 3) := by decide +kernel
theorem dX0_payDebts_46 : decode cX0_payDebts 46 = .ok (.aload_n 0, 1) := by decide +kernel
theorem dX0_payDebts_47 : decode cX0_payDebts 47 = .ok (.getfield 12, 3) := by decide +kernel
theorem dX0_payDebts_50 : decode cX0_payDebts 50 = .ok (.getfield 64, 3) := by decide +kernel
theorem dX0_payDebts_53 : decode cX0_payDebts 53 = .ok (.iload_n 1, 1) := by decide +kernel
theorem dX0_payDebts_54 : decode cX0_payDebts 54 = .ok (.iload_n 2, 1) := by decide +kernel
theorem dX0_payDebts_55 : decode cX0_payDebts 55 = .ok (.iload_n 3, 1) := by decide +kernel
theorem dX0_payDebts_56 : decode cX0_payDebts 56 = .ok (.isub, 1) := by decide +kernel
theorem dX0_payDebts_57 : decode cX0_payDebts 57 = .ok (.invokestatic 90, 3) := by decide +kernel
theorem dX0_payDebts_60 : decode cX0_payDebts 60 = .ok (.return_, 1) := by decide +kernel
set_option maxRecDepth 20000 in
theorem ggX0_reasonNoLine_X1_isIn : GoodIn wsX0_reasonNoLine wsX1_isIn := goodIn_r _ [7, 8, 9, 10, 11, 34, 35, 36, 37, 38, 39, 40, 41, 42] (by decide +kernel) (by decide +kernel)
set_option maxRecDepth 20000 in
theorem gX0_reasonNoLine_X1_isIn_n57 : GoodIn wsX0_reasonNoLine (wsX1_isIn) := ggX0_reasonNoLine_X1_isIn
set_option maxRecDepth 20000 in
theorem ggX0_reasonNoLine_X3_gateOf : GoodIn wsX0_reasonNoLine wsX3_gateOf := goodIn_r _ [15, 16, 17, 18, 13, 19, 20, 21, 9, 10, 11, 43, 44] (by decide +kernel) (by decide +kernel)
set_option maxRecDepth 20000 in
theorem gX0_reasonNoLine_X3_gateOf_n61 : GoodIn wsX0_reasonNoLine (wsX3_gateOf) := ggX0_reasonNoLine_X3_gateOf
set_option maxRecDepth 20000 in
theorem ggX0_reasonNoLine_X5_at : GoodIn wsX0_reasonNoLine wsX5_at := goodIn_r _ [11] (by decide +kernel) (by decide +kernel)
set_option maxRecDepth 20000 in
theorem gX0_reasonNoLine_X5_at_n67 : GoodIn wsX0_reasonNoLine (wsX5_at) := ggX0_reasonNoLine_X5_at
theorem dX0_reasonNoLine_0 : decode cX0_reasonNoLine 0 = .ok (.aload_n 0, 1) := by decide +kernel
theorem dX0_reasonNoLine_1 : decode cX0_reasonNoLine 1 = .ok (.getfield 12, 3) := by decide +kernel
theorem dX0_reasonNoLine_4 : decode cX0_reasonNoLine 4 = .ok (.iload_n 1, 1) := by decide +kernel
theorem dX0_reasonNoLine_5 : decode cX0_reasonNoLine 5 = .ok (.invokevirtual 57, 3) := by decide +kernel
theorem dX0_reasonNoLine_8 : decode cX0_reasonNoLine 8 = .ok (.ifCond .eq 5, 3) := by decide +kernel
theorem dX0_reasonNoLine_11 : decode cX0_reasonNoLine 11 = .ok (.iconst 5, 1) := by decide +kernel
theorem dX0_reasonNoLine_12 : decode cX0_reasonNoLine 12 = .ok (.ireturn, 1) := by decide +kernel
theorem dX0_reasonNoLine_13 : decode cX0_reasonNoLine 13 = .ok (.aload_n 0, 1) := by decide +kernel
theorem dX0_reasonNoLine_14 : decode cX0_reasonNoLine 14 = .ok (.getfield 21, 3) := by decide +kernel
theorem dX0_reasonNoLine_17 : decode cX0_reasonNoLine 17 = .ok (.iload_n 1, 1) := by decide +kernel
theorem dX0_reasonNoLine_18 : decode cX0_reasonNoLine 18 = .ok (.invokevirtual 61, 3) := by decide +kernel
theorem dX0_reasonNoLine_21 : decode cX0_reasonNoLine 21 = .ok (.iconst (-1), 1) := by decide +kernel
theorem dX0_reasonNoLine_22 : decode cX0_reasonNoLine 22 = .ok (.if_icmp .eq 6, 3) := by decide +kernel
theorem dX0_reasonNoLine_25 : decode cX0_reasonNoLine 25 = .ok (.bipush 6, 2) := by decide +kernel
theorem dX0_reasonNoLine_27 : decode cX0_reasonNoLine 27 = .ok (.ireturn, 1) := by decide +kernel
theorem dX0_reasonNoLine_28 : decode cX0_reasonNoLine 28 = .ok (.aload_n 0, 1) := by decide +kernel
theorem dX0_reasonNoLine_29 : decode cX0_reasonNoLine 29 = .ok (.getfield 12, 3) := by decide +kernel
theorem dX0_reasonNoLine_32 : decode cX0_reasonNoLine 32 = .ok (.getfield 64, 3) := by decide +kernel
theorem dX0_reasonNoLine_35 : decode cX0_reasonNoLine 35 = .ok (.iload_n 1, 1) := by decide +kernel
theorem dX0_reasonNoLine_36 : decode cX0_reasonNoLine 36 = .ok (.invokestatic 67, 3) := by decide +kernel
theorem dX0_reasonNoLine_39 : decode cX0_reasonNoLine 39 = .ok (.aload_n 0, 1) := by decide +kernel
theorem dX0_reasonNoLine_40 : decode cX0_reasonNoLine 40 = .ok (.getfield 25, 3) := by decide +kernel
theorem dX0_reasonNoLine_43 : decode cX0_reasonNoLine 43 = .ok (.iconst 5, 1) := by decide +kernel
theorem dX0_reasonNoLine_44 : decode cX0_reasonNoLine 44 = .ok (.invokestatic 67, 3) := by decide +kernel
theorem dX0_reasonNoLine_47 : decode cX0_reasonNoLine 47 = .ok (.if_icmp .le 8, 3) := by decide +kernel
theorem dX0_reasonNoLine_50 : decode cX0_reasonNoLine 50 = .ok (.bipush 7, 2) := by decide +kernel
theorem dX0_reasonNoLine_52 : decode cX0_reasonNoLine 52 = .ok (.goto 4, 3) := by decide +kernel
theorem dX0_reasonNoLine_55 : decode cX0_reasonNoLine 55 = .ok (.iconst 0, 1) := by decide +kernel
theorem dX0_reasonNoLine_56 : decode cX0_reasonNoLine 56 = .ok (.ireturn, 1) := by decide +kernel
set_option maxRecDepth 20000 in
theorem ggX0_allowedElls_X5_at : GoodIn wsX0_allowedElls wsX5_at := goodIn_r _ [8] (by decide +kernel) (by decide +kernel)
set_option maxRecDepth 20000 in
theorem gX0_allowedElls_X5_at_n67 : GoodIn wsX0_allowedElls (wsX5_at) := ggX0_allowedElls_X5_at
theorem dX0_allowedElls_0 : decode cX0_allowedElls 0 = .ok (.aload_n 0, 1) := by decide +kernel
theorem dX0_allowedElls_1 : decode cX0_allowedElls 1 = .ok (.getfield 25, 3) := by decide +kernel
theorem dX0_allowedElls_4 : decode cX0_allowedElls 4 = .ok (.iconst 0, 1) := by decide +kernel
theorem dX0_allowedElls_5 : decode cX0_allowedElls 5 = .ok (.invokestatic 67, 3) := by decide +kernel
theorem dX0_allowedElls_8 : decode cX0_allowedElls 8 = .ok (.aload_n 0, 1) := by decide +kernel
theorem dX0_allowedElls_9 : decode cX0_allowedElls 9 = .ok (.getfield 25, 3) := by decide +kernel
theorem dX0_allowedElls_12 : decode cX0_allowedElls 12 = .ok (.iconst 1, 1) := by decide +kernel
theorem dX0_allowedElls_13 : decode cX0_allowedElls 13 = .ok (.invokestatic 67, 3) := by decide +kernel
theorem dX0_allowedElls_16 : decode cX0_allowedElls 16 = .ok (.iload_n 2, 1) := by decide +kernel
theorem dX0_allowedElls_17 : decode cX0_allowedElls 17 = .ok (.imul, 1) := by decide +kernel
theorem dX0_allowedElls_18 : decode cX0_allowedElls 18 = .ok (.iadd, 1) := by decide +kernel
theorem dX0_allowedElls_19 : decode cX0_allowedElls 19 = .ok (.istore 4, 2) := by decide +kernel
theorem dX0_allowedElls_21 : decode cX0_allowedElls 21 = .ok (.iload_n 1, 1) := by decide +kernel
theorem dX0_allowedElls_22 : decode cX0_allowedElls 22 = .ok (.iconst 1, 1) := by decide +kernel
theorem dX0_allowedElls_23 : decode cX0_allowedElls 23 = .ok (.if_icmp .ne 12, 3) := by decide +kernel
theorem dX0_allowedElls_26 : decode cX0_allowedElls 26 = .ok (.iload 4, 2) := by decide +kernel
theorem dX0_allowedElls_28 : decode cX0_allowedElls 28 = .ok (.iconst 2, 1) := by decide +kernel
theorem dX0_allowedElls_29 : decode cX0_allowedElls 29 = .ok (.isub, 1) := by decide +kernel
theorem dX0_allowedElls_30 : decode cX0_allowedElls 30 = .ok (.iconst 0, 1) := by decide +kernel
theorem dX0_allowedElls_31 : decode cX0_allowedElls 31 = .ok (.invokestatic 103, 3) := by decide +kernel
theorem dX0_allowedElls_34 : decode cX0_allowedElls 34 = .ok (.ireturn, 1) := by decide +kernel
theorem dX0_allowedElls_35 : decode cX0_allowedElls 35 = .ok (.iload_n 1, 1) := by decide +kernel
theorem dX0_allowedElls_36 : decode cX0_allowedElls 36 = .ok (.iconst 2, 1) := by decide +kernel
theorem dX0_allowedElls_37 : decode cX0_allowedElls 37 = .ok (.if_icmp .ne 21, 3) := by decide +kernel
theorem dX0_allowedElls_40 : decode cX0_allowedElls 40 = .ok (.iload 4, 2) := by decide +kernel
theorem dX0_allowedElls_42 : decode cX0_allowedElls 42 = .ok (.iload_n 3, 1) := by decide +kernel
theorem dX0_allowedElls_43 : decode cX0_allowedElls 43 = .ok (.iconst 3, 1) := by decide +kernel
theorem dX0_allowedElls_44 : decode cX0_allowedElls 44 = .ok (.irem, 1) := by decide +kernel
theorem dX0_allowedElls_45 : decode cX0_allowedElls 45 = .ok (.aload_n 0, 1) := by decide +kernel
theorem dX0_allowedElls_46 : decode cX0_allowedElls 46 = .ok (.getfield 25, 3) := by decide +kernel
theorem dX0_allowedElls_49 : decode cX0_allowedElls 49 = .ok (.iconst 2, 1) := by decide +kernel
theorem dX0_allowedElls_50 : decode cX0_allowedElls 50 = .ok (.invokestatic 67, 3) := by decide +kernel
theorem dX0_allowedElls_53 : decode cX0_allowedElls 53 = .ok (.imul, 1) := by decide +kernel
theorem dX0_allowedElls_54 : decode cX0_allowedElls 54 = .ok (.iadd, 1) := by decide +kernel
theorem dX0_allowedElls_55 : decode cX0_allowedElls 55 = .ok (.goto 5, 3) := by decide +kernel
theorem dX0_allowedElls_58 : decode cX0_allowedElls 58 = .ok (.iload 4, 2) := by decide +kernel
theorem dX0_allowedElls_60 : decode cX0_allowedElls 60 = .ok (.ireturn, 1) := by decide +kernel
set_option maxRecDepth 20000 in
theorem ggX0_passesMasked_X1_wornCoat : GoodIn wsX0_passesMasked wsX1_wornCoat := goodIn_r _ [5, 6, 7, 8, 9, 10, 23, 24, 25, 26, 27, 28, 29, 30, 31] (by decide +kernel) (by decide +kernel)
set_option maxRecDepth 20000 in
theorem gX0_passesMasked_X1_wornCoat_n53 : GoodIn wsX0_passesMasked (wsX1_wornCoat) := ggX0_passesMasked_X1_wornCoat
set_option maxRecDepth 20000 in
theorem ggX0_passesMasked_X5_at : GoodIn wsX0_passesMasked wsX5_at := goodIn_r _ [10] (by decide +kernel) (by decide +kernel)
set_option maxRecDepth 20000 in
theorem gX0_passesMasked_X5_at_n67 : GoodIn wsX0_passesMasked (wsX5_at) := ggX0_passesMasked_X5_at
theorem dX0_passesMasked_0 : decode cX0_passesMasked 0 = .ok (.aload_n 0, 1) := by decide +kernel
theorem dX0_passesMasked_1 : decode cX0_passesMasked 1 = .ok (.getfield 12, 3) := by decide +kernel
theorem dX0_passesMasked_4 : decode cX0_passesMasked 4 = .ok (.iload_n 1, 1) := by decide +kernel
theorem dX0_passesMasked_5 : decode cX0_passesMasked 5 = .ok (.invokevirtual 53, 3) := by decide +kernel
theorem dX0_passesMasked_8 : decode cX0_passesMasked 8 = .ok (.iconst (-1), 1) := by decide +kernel
theorem dX0_passesMasked_9 : decode cX0_passesMasked 9 = .ok (.if_icmp .eq 35, 3) := by decide +kernel
theorem dX0_passesMasked_12 : decode cX0_passesMasked 12 = .ok (.aload_n 0, 1) := by decide +kernel
theorem dX0_passesMasked_13 : decode cX0_passesMasked 13 = .ok (.getfield 12, 3) := by decide +kernel
theorem dX0_passesMasked_16 : decode cX0_passesMasked 16 = .ok (.getfield 94, 3) := by decide +kernel
theorem dX0_passesMasked_19 : decode cX0_passesMasked 19 = .ok (.iload_n 1, 1) := by decide +kernel
theorem dX0_passesMasked_20 : decode cX0_passesMasked 20 = .ok (.invokestatic 67, 3) := by decide +kernel
theorem dX0_passesMasked_23 : decode cX0_passesMasked 23 = .ok (.ifCond .le 21, 3) := by decide +kernel
theorem dX0_passesMasked_26 : decode cX0_passesMasked 26 = .ok (.aload_n 0, 1) := by decide +kernel
theorem dX0_passesMasked_27 : decode cX0_passesMasked 27 = .ok (.getfield 12, 3) := by decide +kernel
theorem dX0_passesMasked_30 : decode cX0_passesMasked 30 = .ok (.getfield 71, 3) := by decide +kernel
theorem dX0_passesMasked_33 : decode cX0_passesMasked 33 = .ok (.iload_n 1, 1) := by decide +kernel
theorem dX0_passesMasked_34 : decode cX0_passesMasked 34 = .ok (.invokestatic 67, 3) := by decide +kernel
theorem dX0_passesMasked_37 : decode cX0_passesMasked 37 = .ok (.ifCond .le 7, 3) := by decide +kernel
theorem dX0_passesMasked_40 : decode cX0_passesMasked 40 = .ok (.iconst 1, 1) := by decide +kernel
theorem dX0_passesMasked_41 : decode cX0_passesMasked 41 = .ok (.goto 4, 3) := by decide +kernel
theorem dX0_passesMasked_44 : decode cX0_passesMasked 44 = .ok (.iconst 0, 1) := by decide +kernel
theorem dX0_passesMasked_45 : decode cX0_passesMasked 45 = .ok (.ireturn, 1) := by decide +kernel
set_option maxRecDepth 20000 in
theorem ggX0_ellsTooMuch_X0_passesMasked : GoodIn wsX0_ellsTooMuch wsX0_passesMasked := goodIn_r _ [11, 1, 12, 13, 14, 15, 16, 17, 18, 19, 20, 31, 32, 33, 34, 35, 36, 37, 38, 39, 40, 41, 42, 43, 44, 45, 46, 47, 48, 49, 50, 51] (by decide +kernel) (by decide +kernel)
set_option maxRecDepth 20000 in
theorem gX0_ellsTooMuch_X0_passesMasked : GoodIn wsX0_ellsTooMuch (wsV RX0 106 RX0 yX0_passesMasked wsX0_passesMasked) := goodIn_app (goodIn_of _ (by decide +kernel)) ggX0_ellsTooMuch_X0_passesMasked
set_option maxRecDepth 20000 in
theorem ggX0_ellsTooMuch_X1_wornLace : GoodIn wsX0_ellsTooMuch wsX1_wornLace := goodIn_r _ [23, 24, 25, 12, 14, 13, 15, 16, 17, 18, 19, 20, 43, 44, 45, 46, 47, 48, 49, 50, 51] (by decide +kernel) (by decide +kernel)
set_option maxRecDepth 20000 in
theorem gX0_ellsTooMuch_X1_wornLace_n109 : GoodIn wsX0_ellsTooMuch (wsX1_wornLace) := ggX0_ellsTooMuch_X1_wornLace
set_option maxRecDepth 20000 in
theorem ggX0_ellsTooMuch_X5_at : GoodIn wsX0_ellsTooMuch wsX5_at := goodIn_r _ [20] (by decide +kernel) (by decide +kernel)
set_option maxRecDepth 20000 in
theorem gX0_ellsTooMuch_X5_at_n67 : GoodIn wsX0_ellsTooMuch (wsX5_at) := ggX0_ellsTooMuch_X5_at
set_option maxRecDepth 20000 in
theorem ggX0_ellsTooMuch_X0_allowedElls : GoodIn wsX0_ellsTooMuch wsX0_allowedElls := goodIn_r _ [29, 30, 3, 4, 5, 6, 18, 19, 20, 31, 32, 33, 34, 35, 36, 37, 38, 39, 40, 41, 42] (by decide +kernel) (by decide +kernel)
set_option maxRecDepth 20000 in
theorem gX0_ellsTooMuch_X0_allowedElls : GoodIn wsX0_ellsTooMuch (wsV RX0 118 RX0 yX0_allowedElls wsX0_allowedElls) := goodIn_app (goodIn_of _ (by decide +kernel)) ggX0_ellsTooMuch_X0_allowedElls
theorem dX0_ellsTooMuch_0 : decode cX0_ellsTooMuch 0 = .ok (.aload_n 0, 1) := by decide +kernel
theorem dX0_ellsTooMuch_1 : decode cX0_ellsTooMuch 1 = .ok (.iload_n 1, 1) := by decide +kernel
theorem dX0_ellsTooMuch_2 : decode cX0_ellsTooMuch 2 = .ok (.invokevirtual 106, 3) := by decide +kernel
theorem dX0_ellsTooMuch_5 : decode cX0_ellsTooMuch 5 = .ok (.ifCond .eq 5, 3) := by decide +kernel
theorem dX0_ellsTooMuch_8 : decode cX0_ellsTooMuch 8 = .ok (.iconst 0, 1) := by decide +kernel
theorem dX0_ellsTooMuch_9 : decode cX0_ellsTooMuch 9 = .ok (.ireturn, 1) := by decide +kernel
theorem dX0_ellsTooMuch_10 : decode cX0_ellsTooMuch 10 = .ok (.aload_n 0, 1) := by decide +kernel
theorem dX0_ellsTooMuch_11 : decode cX0_ellsTooMuch 11 = .ok (.getfield 12, 3) := by decide +kernel
theorem dX0_ellsTooMuch_14 : decode cX0_ellsTooMuch 14 = .ok (.iload_n 1, 1) := by decide +kernel
theorem dX0_ellsTooMuch_15 : decode cX0_ellsTooMuch 15 = .ok (.invokevirtual 109, 3) := by decide +kernel
theorem dX0_ellsTooMuch_18 : decode cX0_ellsTooMuch 18 = .ok (.aload_n 0, 1) := by decide +kernel
theorem dX0_ellsTooMuch_19 : decode cX0_ellsTooMuch 19 = .ok (.iload_n 2, 1) := by decide +kernel
theorem dX0_ellsTooMuch_20 : decode cX0_ellsTooMuch 20 = .ok (.aload_n 0, 1) := by decide +kernel
theorem dX0_ellsTooMuch_21 : decode cX0_ellsTooMuch 21 = .ok (.getfield 12, 3) := by decide +kernel
theorem dX0_ellsTooMuch_24 : decode cX0_ellsTooMuch 24 = .ok (.getfield 112, 3) := by decide +kernel
theorem dX0_ellsTooMuch_27 : decode cX0_ellsTooMuch 27 = .ok (.iload_n 1, 1) := by decide +kernel
theorem dX0_ellsTooMuch_28 : decode cX0_ellsTooMuch 28 = .ok (.invokestatic 67, 3) := by decide +kernel
theorem dX0_ellsTooMuch_31 : decode cX0_ellsTooMuch 31 = .ok (.aload_n 0, 1) := by decide +kernel
theorem dX0_ellsTooMuch_32 : decode cX0_ellsTooMuch 32 = .ok (.getfield 115, 3) := by decide +kernel
theorem dX0_ellsTooMuch_35 : decode cX0_ellsTooMuch 35 = .ok (.invokevirtual 118, 3) := by decide +kernel
theorem dX0_ellsTooMuch_38 : decode cX0_ellsTooMuch 38 = .ok (.isub, 1) := by decide +kernel
theorem dX0_ellsTooMuch_39 : decode cX0_ellsTooMuch 39 = .ok (.iconst 0, 1) := by decide +kernel
theorem dX0_ellsTooMuch_40 : decode cX0_ellsTooMuch 40 = .ok (.invokestatic 103, 3) := by decide +kernel
theorem dX0_ellsTooMuch_43 : decode cX0_ellsTooMuch 43 = .ok (.ireturn, 1) := by decide +kernel
set_option maxRecDepth 20000 in
theorem ggX0_paidByGuest_X0_passesMasked : GoodIn wsX0_paidByGuest wsX0_passesMasked := goodIn_r _ [10, 1, 11, 12, 13, 14, 15, 16, 17, 18, 19, 20, 21, 22, 23, 24, 25, 26, 27, 28, 29, 30, 31, 32, 33, 34, 35, 36, 37, 38, 39, 40] (by decide +kernel) (by decide +kernel)
set_option maxRecDepth 20000 in
theorem gX0_paidByGuest_X0_passesMasked : GoodIn wsX0_paidByGuest (wsV RX0 106 RX0 yX0_passesMasked wsX0_passesMasked) := goodIn_app (goodIn_of _ (by decide +kernel)) ggX0_paidByGuest_X0_passesMasked
set_option maxRecDepth 20000 in
theorem ggX0_paidByGuest_X5_at : GoodIn wsX0_paidByGuest wsX5_at := goodIn_r _ [19] (by decide +kernel) (by decide +kernel)
set_option maxRecDepth 20000 in
theorem gX0_paidByGuest_X5_at_n67 : GoodIn wsX0_paidByGuest (wsX5_at) := ggX0_paidByGuest_X5_at
theorem dX0_paidByGuest_0 : decode cX0_paidByGuest 0 = .ok (.aload_n 0, 1) := by decide +kernel
theorem dX0_paidByGuest_1 : decode cX0_paidByGuest 1 = .ok (.iload_n 1, 1) := by decide +kernel
theorem dX0_paidByGuest_2 : decode cX0_paidByGuest 2 = .ok (.invokevirtual 106, 3) := by decide +kernel
theorem dX0_paidByGuest_5 : decode cX0_paidByGuest 5 = .ok (.ifCond .eq 7, 3) := by decide +kernel
theorem dX0_paidByGuest_8 : decode cX0_paidByGuest 8 = .ok (.iconst 1, 1) := by decide +kernel
theorem dX0_paidByGuest_9 : decode cX0_paidByGuest 9 = .ok (.goto 18, 3) := by decide +kernel
theorem dX0_paidByGuest_12 : decode cX0_paidByGuest 12 = .ok (.iload_n 2, 1) := by decide +kernel
theorem dX0_paidByGuest_13 : decode cX0_paidByGuest 13 = .ok (.aload_n 0, 1) := by decide +kernel
theorem dX0_paidByGuest_14 : decode cX0_paidByGuest 14 = .ok (.getfield 12, 3) := by decide +kernel
theorem dX0_paidByGuest_17 : decode cX0_paidByGuest 17 = .ok (.getfield 71, 3) := by decide +kernel
theorem dX0_paidByGuest_20 : decode cX0_paidByGuest 20 = .ok (.iload_n 1, 1) := by decide +kernel
theorem dX0_paidByGuest_21 : decode cX0_paidByGuest 21 = .ok (.invokestatic 67, 3) := by decide +kernel
theorem dX0_paidByGuest_24 : decode cX0_paidByGuest 24 = .ok (.invokestatic 84, 3) := by decide +kernel

