theorem mw_1_9 : (Cond.code yX5_init cX5_init 1 none) ∈ lw_tbl := wsL_in_r1 _ (List.mem_of_getElem? (i := 9) rfl)
theorem mw_2_9 : (Cond.fieldLink RX0 12 "LaceRanks$Carnival" "guests" "LLaceRanks$Guests;") ∈ lw_tbl := wsL_in_r2 _ (List.mem_of_getElem? (i := 9) rfl)
theorem mw_2_8 : (Cond.initialized RX1) ∈ lw_tbl := wsL_in_r2 _ (List.mem_of_getElem? (i := 8) rfl)
theorem mw_2_7 : (Cond.instantiable RX1 9) ∈ lw_tbl := wsL_in_r2 _ (List.mem_of_getElem? (i := 7) rfl)
theorem mw_2_6 : (Cond.classLink RX0 9 RX1) ∈ lw_tbl := wsL_in_r2 _ (List.mem_of_getElem? (i := 6) rfl)
theorem mw_2_5 : (Cond.methodLink RX0 3 objectInit) ∈ lw_tbl := wsL_in_r2 _ (List.mem_of_getElem? (i := 5) rfl)
theorem mw_2_4 : (Cond.code yX0_init cX0_init 1 none) ∈ lw_tbl := wsL_in_r2 _ (List.mem_of_getElem? (i := 4) rfl)
theorem mw_2_3 : (Cond.instanceMethod yX0_init) ∈ lw_tbl := wsL_in_r2 _ (List.mem_of_getElem? (i := 3) rfl)
theorem mw_2_2 : (Cond.fieldLink RX5 33 "LaceRanks" "hasSnapshot" "Z") ∈ lw_tbl := wsL_in_r2 _ (List.mem_of_getElem? (i := 2) rfl)
theorem mw_2_1 : (Cond.fieldLink RX5 29 "LaceRanks" "text" "LLaceRanks$Text;") ∈ lw_tbl := wsL_in_r2 _ (List.mem_of_getElem? (i := 1) rfl)
theorem mw_2_0 : (Cond.initialized RX4) ∈ lw_tbl := wsL_in_r2 _ (List.mem_of_getElem? (i := 0) rfl)
theorem mw_1_23 : (Cond.instantiable RX4 2) ∈ lw_tbl := wsL_in_r1 _ (List.mem_of_getElem? (i := 23) rfl)
theorem mw_1_22 : (Cond.classLink RX5 26 RX4) ∈ lw_tbl := wsL_in_r1 _ (List.mem_of_getElem? (i := 22) rfl)
theorem mw_1_21 : (Cond.fieldLink RX5 22 "LaceRanks" "history" "LLaceRanks$History;") ∈ lw_tbl := wsL_in_r1 _ (List.mem_of_getElem? (i := 21) rfl)
theorem mw_1_20 : (Cond.initialized RX2) ∈ lw_tbl := wsL_in_r1 _ (List.mem_of_getElem? (i := 20) rfl)
theorem mw_1_19 : (Cond.instantiable RX2 3) ∈ lw_tbl := wsL_in_r1 _ (List.mem_of_getElem? (i := 19) rfl)
theorem mw_1_18 : (Cond.classLink RX5 19 RX2) ∈ lw_tbl := wsL_in_r1 _ (List.mem_of_getElem? (i := 18) rfl)
theorem mw_1_17 : (Cond.fieldLink RX5 16 "LaceRanks" "snapshot" "LLaceRanks$Carnival;") ∈ lw_tbl := wsL_in_r1 _ (List.mem_of_getElem? (i := 17) rfl)
theorem mw_1_16 : (Cond.fieldLink RX5 10 "LaceRanks" "now" "LLaceRanks$Carnival;") ∈ lw_tbl := wsL_in_r1 _ (List.mem_of_getElem? (i := 16) rfl)
theorem mw_1_15 : (Cond.initialized RX0) ∈ lw_tbl := wsL_in_r1 _ (List.mem_of_getElem? (i := 15) rfl)
theorem mw_1_14 : (Cond.instantiable RX0 12) ∈ lw_tbl := wsL_in_r1 _ (List.mem_of_getElem? (i := 14) rfl)
theorem mw_1_13 : (Cond.classLink RX5 7 RX0) ∈ lw_tbl := wsL_in_r1 _ (List.mem_of_getElem? (i := 13) rfl)
theorem mw_1_12 : (Cond.code objectInit ⟨#[0xb1]⟩ 1 none) ∈ lw_tbl := wsL_in_r1 _ (List.mem_of_getElem? (i := 12) rfl)
theorem mw_1_11 : (Cond.instanceMethod objectInit) ∈ lw_tbl := wsL_in_r1 _ (List.mem_of_getElem? (i := 11) rfl)
theorem mw_1_10 : (Cond.methodLink RX5 1 objectInit) ∈ lw_tbl := wsL_in_r1 _ (List.mem_of_getElem? (i := 10) rfl)
theorem memT_wsX5_init_r1 : ∀ w ∈ wsX5_init_r1, w ∈ lw_tbl := by
  unfold wsX5_init_r1
  exact (List.forall_mem_cons.mpr ⟨mw_1_10, (List.forall_mem_cons.mpr ⟨mw_1_11, (List.forall_mem_cons.mpr ⟨mw_1_12, (List.forall_mem_cons.mpr ⟨mw_1_13, (List.forall_mem_cons.mpr ⟨mw_1_14, (List.forall_mem_cons.mpr ⟨mw_1_15, (List.forall_mem_cons.mpr ⟨mw_1_16, (List.forall_mem_cons.mpr ⟨mw_1_17, (List.forall_mem_cons.mpr ⟨mw_1_18, (List.forall_mem_cons.mpr ⟨mw_1_19, (List.forall_mem_cons.mpr ⟨mw_1_20, (List.forall_mem_cons.mpr ⟨mw_1_21, (List.forall_mem_cons.mpr ⟨mw_1_22, (List.forall_mem_cons.mpr ⟨mw_1_23, (List.forall_mem_cons.mpr ⟨mw_2_0, (List.forall_mem_cons.mpr ⟨mw_2_1, (List.forall_mem_cons.mpr ⟨mw_2_2, (List.forall_mem_cons.mpr ⟨mw_2_3, (List.forall_mem_cons.mpr ⟨mw_2_4, (List.forall_mem_cons.mpr ⟨mw_2_5, (List.forall_mem_cons.mpr ⟨mw_2_6, (List.forall_mem_cons.mpr ⟨mw_2_7, (List.forall_mem_cons.mpr ⟨mw_2_8, (List.forall_mem_cons.mpr ⟨mw_2_9, (fun _ h => absurd h List.not_mem_nil)⟩)⟩)⟩)⟩)⟩)⟩)⟩)⟩)⟩)⟩)⟩)⟩)⟩)⟩)⟩)⟩)⟩)⟩)⟩)⟩)⟩)⟩)⟩)⟩)
theorem mw_3_9 : (Cond.fieldLink RX3 15 "LaceRanks$Lines" "lengths" "[I") ∈ lw_tbl := wsL_in_r3 _ (List.mem_of_getElem? (i := 9) rfl)
theorem mw_3_8 : (Cond.fieldLink RX3 9 "LaceRanks$Lines" "places" "[I") ∈ lw_tbl := wsL_in_r3 _ (List.mem_of_getElem? (i := 8) rfl)
theorem mw_3_7 : (Cond.methodLink RX3 3 objectInit) ∈ lw_tbl := wsL_in_r3 _ (List.mem_of_getElem? (i := 7) rfl)
theorem mw_3_6 : (Cond.code yX3_init cX3_init 1 none) ∈ lw_tbl := wsL_in_r3 _ (List.mem_of_getElem? (i := 6) rfl)
theorem mw_3_5 : (Cond.instanceMethod yX3_init) ∈ lw_tbl := wsL_in_r3 _ (List.mem_of_getElem? (i := 5) rfl)
theorem mw_3_4 : (Cond.fieldLink RX1 33 "LaceRanks$Guests" "inside" "[I") ∈ lw_tbl := wsL_in_r3 _ (List.mem_of_getElem? (i := 4) rfl)
theorem mw_3_3 : (Cond.fieldLink RX1 30 "LaceRanks$Guests" "maskNights" "[I") ∈ lw_tbl := wsL_in_r3 _ (List.mem_of_getElem? (i := 3) rfl)
theorem mw_3_2 : (Cond.fieldLink RX1 27 "LaceRanks$Guests" "borrower" "[I") ∈ lw_tbl := wsL_in_r3 _ (List.mem_of_getElem? (i := 2) rfl)
theorem mw_3_1 : (Cond.fieldLink RX1 24 "LaceRanks$Guests" "lender" "[I") ∈ lw_tbl := wsL_in_r3 _ (List.mem_of_getElem? (i := 1) rfl)
theorem mw_3_0 : (Cond.fieldLink RX1 21 "LaceRanks$Guests" "lace" "[I") ∈ lw_tbl := wsL_in_r3 _ (List.mem_of_getElem? (i := 0) rfl)
theorem mw_2_23 : (Cond.fieldLink RX1 18 "LaceRanks$Guests" "debts" "[I") ∈ lw_tbl := wsL_in_r2 _ (List.mem_of_getElem? (i := 23) rfl)
theorem mw_2_22 : (Cond.fieldLink RX1 15 "LaceRanks$Guests" "purse" "[I") ∈ lw_tbl := wsL_in_r2 _ (List.mem_of_getElem? (i := 22) rfl)
theorem mw_2_21 : (Cond.fieldLink RX1 9 "LaceRanks$Guests" "rank" "[I") ∈ lw_tbl := wsL_in_r2 _ (List.mem_of_getElem? (i := 21) rfl)
theorem mw_2_20 : (Cond.methodLink RX1 3 objectInit) ∈ lw_tbl := wsL_in_r2 _ (List.mem_of_getElem? (i := 20) rfl)
theorem mw_2_19 : (Cond.code yX1_init cX1_init 1 none) ∈ lw_tbl := wsL_in_r2 _ (List.mem_of_getElem? (i := 19) rfl)
theorem mw_2_18 : (Cond.instanceMethod yX1_init) ∈ lw_tbl := wsL_in_r2 _ (List.mem_of_getElem? (i := 18) rfl)
theorem mw_2_17 : (Cond.fieldLink RX0 33 "LaceRanks$Carnival" "stopReason" "I") ∈ lw_tbl := wsL_in_r2 _ (List.mem_of_getElem? (i := 17) rfl)
theorem mw_2_16 : (Cond.fieldLink RX0 29 "LaceRanks$Carnival" "stopPart" "I") ∈ lw_tbl := wsL_in_r2 _ (List.mem_of_getElem? (i := 16) rfl)
theorem mw_2_15 : (Cond.fieldLink RX0 25 "LaceRanks$Carnival" "settings" "[I") ∈ lw_tbl := wsL_in_r2 _ (List.mem_of_getElem? (i := 15) rfl)
theorem mw_2_14 : (Cond.arrayClass .int) ∈ lw_tbl := wsL_in_r2 _ (List.mem_of_getElem? (i := 14) rfl)
theorem mw_2_13 : (Cond.fieldLink RX0 21 "LaceRanks$Carnival" "lines" "LLaceRanks$Lines;") ∈ lw_tbl := wsL_in_r2 _ (List.mem_of_getElem? (i := 13) rfl)
theorem mw_2_12 : (Cond.initialized RX3) ∈ lw_tbl := wsL_in_r2 _ (List.mem_of_getElem? (i := 12) rfl)
theorem mw_2_11 : (Cond.instantiable RX3 2) ∈ lw_tbl := wsL_in_r2 _ (List.mem_of_getElem? (i := 11) rfl)
theorem mw_2_10 : (Cond.classLink RX0 18 RX3) ∈ lw_tbl := wsL_in_r2 _ (List.mem_of_getElem? (i := 10) rfl)
theorem memT_wsX5_init_r2 : ∀ w ∈ wsX5_init_r2, w ∈ lw_tbl := by
  unfold wsX5_init_r2
  exact (List.forall_mem_cons.mpr ⟨mw_2_10, (List.forall_mem_cons.mpr ⟨mw_2_11, (List.forall_mem_cons.mpr ⟨mw_2_12, (List.forall_mem_cons.mpr ⟨mw_2_13, (List.forall_mem_cons.mpr ⟨mw_2_14, (List.forall_mem_cons.mpr ⟨mw_2_15, (List.forall_mem_cons.mpr ⟨mw_2_16, (List.forall_mem_cons.mpr ⟨mw_2_17, (List.forall_mem_cons.mpr ⟨mw_2_18, (List.forall_mem_cons.mpr ⟨mw_2_19, (List.forall_mem_cons.mpr ⟨mw_2_20, (List.forall_mem_cons.mpr ⟨mw_2_21, (List.forall_mem_cons.mpr ⟨mw_2_22, (List.forall_mem_cons.mpr ⟨mw_2_23, (List.forall_mem_cons.mpr ⟨mw_3_0, (List.forall_mem_cons.mpr ⟨mw_3_1, (List.forall_mem_cons.mpr ⟨mw_3_2, (List.forall_mem_cons.mpr ⟨mw_3_3, (List.forall_mem_cons.mpr ⟨mw_3_4, (List.forall_mem_cons.mpr ⟨mw_3_5, (List.forall_mem_cons.mpr ⟨mw_3_6, (List.forall_mem_cons.mpr ⟨mw_3_7, (List.forall_mem_cons.mpr ⟨mw_3_8, (List.forall_mem_cons.mpr ⟨mw_3_9, (fun _ h => absurd h List.not_mem_nil)⟩)⟩)⟩)⟩)⟩)⟩)⟩)⟩)⟩)⟩)⟩)⟩)⟩)⟩)⟩)⟩)⟩)⟩)⟩)⟩)⟩)⟩)⟩)⟩)
theorem mw_4_4 : (Cond.fieldLink RX4 9 "LaceRanks$Text" "signs" "[I") ∈ lw_tbl := wsL_in_r4 _ (List.mem_of_getElem? (i := 4) rfl)
theorem mw_4_3 : (Cond.methodLink RX4 3 objectInit) ∈ lw_tbl := wsL_in_r4 _ (List.mem_of_getElem? (i := 3) rfl)
theorem mw_4_2 : (Cond.code yX4_init cX4_init 1 none) ∈ lw_tbl := wsL_in_r4 _ (List.mem_of_getElem? (i := 2) rfl)
theorem mw_4_1 : (Cond.instanceMethod yX4_init) ∈ lw_tbl := wsL_in_r4 _ (List.mem_of_getElem? (i := 1) rfl)
theorem mw_4_0 : (Cond.fieldLink RX2 11 "LaceRanks$History" "ring" "[LLaceRanks$Carnival;") ∈ lw_tbl := wsL_in_r4 _ (List.mem_of_getElem? (i := 0) rfl)
theorem mw_3_23 : (Cond.classLink RX2 9 RX0) ∈ lw_tbl := wsL_in_r3 _ (List.mem_of_getElem? (i := 23) rfl)
theorem mw_3_22 : (Cond.methodLink RX2 3 objectInit) ∈ lw_tbl := wsL_in_r3 _ (List.mem_of_getElem? (i := 22) rfl)
theorem mw_3_21 : (Cond.code yX2_init cX2_init 2 none) ∈ lw_tbl := wsL_in_r3 _ (List.mem_of_getElem? (i := 21) rfl)
theorem mw_3_20 : (Cond.instanceMethod yX2_init) ∈ lw_tbl := wsL_in_r3 _ (List.mem_of_getElem? (i := 20) rfl)
theorem mw_3_19 : (Cond.initialized "java/lang/System") ∈ lw_tbl := wsL_in_r3 _ (List.mem_of_getElem? (i := 19) rfl)
theorem mw_3_18 : (Cond.static arraycopyName) ∈ lw_tbl := wsL_in_r3 _ (List.mem_of_getElem? (i := 18) rfl)
theorem mw_3_17 : (Cond.native arraycopyName) ∈ lw_tbl := wsL_in_r3 _ (List.mem_of_getElem? (i := 17) rfl)
theorem mw_3_16 : (Cond.methodLink RX5 263 arraycopyName) ∈ lw_tbl := wsL_in_r3 _ (List.mem_of_getElem? (i := 16) rfl)
theorem mw_3_15 : (Cond.code Lib.Math.min.name Lib.Math.min.code 2 (some .int)) ∈ lw_tbl := wsL_in_r3 _ (List.mem_of_getElem? (i := 15) rfl)
theorem mw_3_14 : (Cond.initialized "java/lang/Math") ∈ lw_tbl := wsL_in_r3 _ (List.mem_of_getElem? (i := 14) rfl)
theorem mw_3_13 : (Cond.static Lib.Math.min.name) ∈ lw_tbl := wsL_in_r3 _ (List.mem_of_getElem? (i := 13) rfl)
theorem mw_3_12 : (Cond.methodLink RX5 258 Lib.Math.min.name) ∈ lw_tbl := wsL_in_r3 _ (List.mem_of_getElem? (i := 12) rfl)
theorem mw_3_11 : (Cond.code yX5_copyRow cX5_copyRow 2 none) ∈ lw_tbl := wsL_in_r3 _ (List.mem_of_getElem? (i := 11) rfl)
theorem mw_1_2 : (Cond.initialized RX5) ∈ lw_tbl := wsL_in_r1 _ (List.mem_of_getElem? (i := 2) rfl)
theorem mw_3_10 : (Cond.static yX5_copyRow) ∈ lw_tbl := wsL_in_r3 _ (List.mem_of_getElem? (i := 10) rfl)
theorem memT_wsX5_init_r3 : ∀ w ∈ wsX5_init_r3, w ∈ lw_tbl := by
  unfold wsX5_init_r3
  exact (List.forall_mem_cons.mpr ⟨mw_3_10, (List.forall_mem_cons.mpr ⟨mw_1_2, (List.forall_mem_cons.mpr ⟨mw_3_11, (List.forall_mem_cons.mpr ⟨mw_3_12, (List.forall_mem_cons.mpr ⟨mw_3_13, (List.forall_mem_cons.mpr ⟨mw_3_14, (List.forall_mem_cons.mpr ⟨mw_3_15, (List.forall_mem_cons.mpr ⟨mw_3_16, (List.forall_mem_cons.mpr ⟨mw_3_17, (List.forall_mem_cons.mpr ⟨mw_3_18, (List.forall_mem_cons.mpr ⟨mw_3_19, (List.forall_mem_cons.mpr ⟨mw_3_20, (List.forall_mem_cons.mpr ⟨mw_3_21, (List.forall_mem_cons.mpr ⟨mw_3_22, (List.forall_mem_cons.mpr ⟨mw_3_23, (List.forall_mem_cons.mpr ⟨mw_4_0, (List.forall_mem_cons.mpr ⟨mw_4_1, (List.forall_mem_cons.mpr ⟨mw_4_2, (List.forall_mem_cons.mpr ⟨mw_4_3, (List.forall_mem_cons.mpr ⟨mw_4_4, (fun _ h => absurd h List.not_mem_nil)⟩)⟩)⟩)⟩)⟩)⟩)⟩)⟩)⟩)⟩)⟩)⟩)⟩)⟩)⟩)⟩)⟩)⟩)⟩)⟩)
theorem memT_wsX5_init : ∀ w ∈ wsX5_init, w ∈ lw_tbl := by
  unfold wsX5_init
  exact (List.forall_mem_cons.mpr ⟨mw_1_9, (List.forall_mem_append.mpr ⟨(List.forall_mem_append.mpr ⟨(List.forall_mem_append.mpr ⟨(List.forall_mem_append.mpr ⟨(List.forall_mem_append.mpr ⟨(List.forall_mem_append.mpr ⟨(List.forall_mem_append.mpr ⟨memT_wsX5_init_r1, (List.forall_mem_append.mpr ⟨memT_wsX5_init_r2, memT_wsX5_init_r3⟩)⟩), inX0⟩), inX5⟩), inX2⟩), inX4⟩), inX1⟩), inX3⟩)⟩)
set_option maxRecDepth 20000 in
theorem gT_X5_init : GoodIn lw_tbl (wsX5_init) := goodIn_sub memT_wsX5_init (by decide +kernel)
theorem mw_4_7 : (Cond.code yX6_init cX6_init 1 none) ∈ lw_tbl := wsL_in_r4 _ (List.mem_of_getElem? (i := 7) rfl)
theorem mw_4_11 : (Cond.fieldLink RX6 16 "LaceRanksModel" "brings" "[I") ∈ lw_tbl := wsL_in_r4 _ (List.mem_of_getElem? (i := 11) rfl)
theorem mw_4_10 : (Cond.fieldLink RX6 13 "LaceRanksModel" "text" "[I") ∈ lw_tbl := wsL_in_r4 _ (List.mem_of_getElem? (i := 10) rfl)
theorem mw_4_9 : (Cond.fieldLink RX6 7 "LaceRanksModel" "s" "[I") ∈ lw_tbl := wsL_in_r4 _ (List.mem_of_getElem? (i := 9) rfl)
theorem mw_4_8 : (Cond.methodLink RX6 1 objectInit) ∈ lw_tbl := wsL_in_r4 _ (List.mem_of_getElem? (i := 8) rfl)
theorem memT_wsX6_init : ∀ w ∈ wsX6_init, w ∈ lw_tbl := by
  unfold wsX6_init
  exact (List.forall_mem_cons.mpr ⟨mw_4_7, (List.forall_mem_append.mpr ⟨(List.forall_mem_cons.mpr ⟨mw_4_8, (List.forall_mem_cons.mpr ⟨mw_1_11, (List.forall_mem_cons.mpr ⟨mw_1_12, (List.forall_mem_cons.mpr ⟨mw_2_14, (List.forall_mem_cons.mpr ⟨mw_4_9, (List.forall_mem_cons.mpr ⟨mw_4_10, (List.forall_mem_cons.mpr ⟨mw_4_11, (fun _ h => absurd h List.not_mem_nil)⟩)⟩)⟩)⟩)⟩)⟩)⟩), inX6⟩)⟩)
set_option maxRecDepth 20000 in
theorem gT_X6_init : GoodIn lw_tbl (wsX6_init) := goodIn_sub memT_wsX6_init (by decide +kernel)
theorem mw_4_15 : (Cond.codeWith yL_come cL_come 6 (some .int) [(0, 12, 15, 13), (0, 12, 19, 15)]) ∈ lw_tbl := wsL_in_r4 _ (List.mem_of_getElem? (i := 15) rfl)
theorem mw_5_11 : (Cond.instanceMethod yX2_save) ∈ lw_tbl := wsL_in_r5 _ (List.mem_of_getElem? (i := 11) rfl)
theorem mw_5_10 : (Cond.initialized "java/lang/IllegalStateException") ∈ lw_tbl := wsL_in_r5 _ (List.mem_of_getElem? (i := 10) rfl)
theorem mw_5_9 : (Cond.classLink RX5 253 "java/lang/IllegalStateException") ∈ lw_tbl := wsL_in_r5 _ (List.mem_of_getElem? (i := 9) rfl)
theorem mw_5_8 : (Cond.code yX5_needState cX5_needState 1 none) ∈ lw_tbl := wsL_in_r5 _ (List.mem_of_getElem? (i := 8) rfl)
theorem mw_5_7 : (Cond.static yX5_needState) ∈ lw_tbl := wsL_in_r5 _ (List.mem_of_getElem? (i := 7) rfl)
theorem mw_5_6 : (Cond.methodLink RX5 55 yX5_needState) ∈ lw_tbl := wsL_in_r5 _ (List.mem_of_getElem? (i := 6) rfl)
theorem mw_5_5 : (Cond.initialized "java/lang/IllegalArgumentException") ∈ lw_tbl := wsL_in_r5 _ (List.mem_of_getElem? (i := 5) rfl)
theorem mw_5_4 : (Cond.classLink RX5 248 "java/lang/IllegalArgumentException") ∈ lw_tbl := wsL_in_r5 _ (List.mem_of_getElem? (i := 4) rfl)
theorem mw_5_3 : (Cond.code yX5_needArgument cX5_needArgument 1 none) ∈ lw_tbl := wsL_in_r5 _ (List.mem_of_getElem? (i := 3) rfl)
theorem mw_5_2 : (Cond.static yX5_needArgument) ∈ lw_tbl := wsL_in_r5 _ (List.mem_of_getElem? (i := 2) rfl)
theorem mw_5_1 : (Cond.methodLink RX5 41 yX5_needArgument) ∈ lw_tbl := wsL_in_r5 _ (List.mem_of_getElem? (i := 1) rfl)
theorem mw_5_0 : (Cond.code yX5_isWithin cX5_isWithin 3 (some .boolean)) ∈ lw_tbl := wsL_in_r5 _ (List.mem_of_getElem? (i := 0) rfl)
theorem mw_4_23 : (Cond.static yX5_isWithin) ∈ lw_tbl := wsL_in_r4 _ (List.mem_of_getElem? (i := 23) rfl)
theorem mw_4_22 : (Cond.methodLink RX5 37 yX5_isWithin) ∈ lw_tbl := wsL_in_r4 _ (List.mem_of_getElem? (i := 22) rfl)
theorem mw_4_21 : (Cond.code yX5_come cX5_come 4 (some .int)) ∈ lw_tbl := wsL_in_r4 _ (List.mem_of_getElem? (i := 21) rfl)
theorem mw_4_20 : (Cond.selects RX5 yX5_come yX5_come) ∈ lw_tbl := wsL_in_r4 _ (List.mem_of_getElem? (i := 20) rfl)
theorem mw_4_19 : (Cond.instanceMethod yX5_come) ∈ lw_tbl := wsL_in_r4 _ (List.mem_of_getElem? (i := 19) rfl)
theorem mw_4_18 : (Cond.methodLink RL 7 yX5_come) ∈ lw_tbl := wsL_in_r4 _ (List.mem_of_getElem? (i := 18) rfl)
theorem mw_4_17 : (Cond.classLink RL 15 "java/lang/IllegalStateException") ∈ lw_tbl := wsL_in_r4 _ (List.mem_of_getElem? (i := 17) rfl)
theorem mw_4_16 : (Cond.classLink RL 13 "java/lang/IllegalArgumentException") ∈ lw_tbl := wsL_in_r4 _ (List.mem_of_getElem? (i := 16) rfl)
theorem memT_wsL_come_r1 : ∀ w ∈ wsL_come_r1, w ∈ lw_tbl := by
  unfold wsL_come_r1
  exact (List.forall_mem_cons.mpr ⟨mw_4_16, (List.forall_mem_cons.mpr ⟨mw_4_17, (List.forall_mem_cons.mpr ⟨mw_4_18, (List.forall_mem_cons.mpr ⟨mw_4_19, (List.forall_mem_cons.mpr ⟨mw_4_20, (List.forall_mem_cons.mpr ⟨mw_1_2, (List.forall_mem_cons.mpr ⟨mw_4_21, (List.forall_mem_cons.mpr ⟨mw_1_16, (List.forall_mem_cons.mpr ⟨mw_1_21, (List.forall_mem_cons.mpr ⟨mw_4_22, (List.forall_mem_cons.mpr ⟨mw_4_23, (List.forall_mem_cons.mpr ⟨mw_5_0, (List.forall_mem_cons.mpr ⟨mw_5_1, (List.forall_mem_cons.mpr ⟨mw_5_2, (List.forall_mem_cons.mpr ⟨mw_5_3, (List.forall_mem_cons.mpr ⟨mw_5_4, (List.forall_mem_cons.mpr ⟨mw_5_5, (List.forall_mem_cons.mpr ⟨mw_5_6, (List.forall_mem_cons.mpr ⟨mw_5_7, (List.forall_mem_cons.mpr ⟨mw_5_8, (List.forall_mem_cons.mpr ⟨mw_5_9, (List.forall_mem_cons.mpr ⟨mw_5_10, (List.forall_mem_cons.mpr ⟨mw_5_11, (List.forall_mem_cons.mpr ⟨mw_1_20, (fun _ h => absurd h List.not_mem_nil)⟩)⟩)⟩)⟩)⟩)⟩)⟩)⟩)⟩)⟩)⟩)⟩)⟩)⟩)⟩)⟩)⟩)⟩)⟩)⟩)⟩)⟩)⟩)⟩)
theorem mw_6_5 : (Cond.fieldLink RX0 152 "LaceRanks$Carnival" "ellsCut" "I") ∈ lw_tbl := wsL_in_r6 _ (List.mem_of_getElem? (i := 5) rfl)
theorem mw_6_4 : (Cond.fieldLink RX0 155 "LaceRanks$Carnival" "fined" "I") ∈ lw_tbl := wsL_in_r6 _ (List.mem_of_getElem? (i := 4) rfl)
theorem mw_6_3 : (Cond.fieldLink RX0 46 "LaceRanks$Carnival" "laceTold" "I") ∈ lw_tbl := wsL_in_r6 _ (List.mem_of_getElem? (i := 3) rfl)
theorem mw_6_2 : (Cond.fieldLink RX0 43 "LaceRanks$Carnival" "ribbonsTold" "I") ∈ lw_tbl := wsL_in_r6 _ (List.mem_of_getElem? (i := 2) rfl)
theorem mw_6_1 : (Cond.fieldLink RX0 149 "LaceRanks$Carnival" "laceChest" "I") ∈ lw_tbl := wsL_in_r6 _ (List.mem_of_getElem? (i := 1) rfl)
theorem mw_6_0 : (Cond.fieldLink RX0 97 "LaceRanks$Carnival" "chest" "I") ∈ lw_tbl := wsL_in_r6 _ (List.mem_of_getElem? (i := 0) rfl)
theorem mw_5_23 : (Cond.fieldLink RX0 115 "LaceRanks$Carnival" "nightNumber" "I") ∈ lw_tbl := wsL_in_r5 _ (List.mem_of_getElem? (i := 23) rfl)
theorem mw_5_22 : (Cond.code yX0_copyState cX0_copyState 2 none) ∈ lw_tbl := wsL_in_r5 _ (List.mem_of_getElem? (i := 22) rfl)
theorem mw_5_21 : (Cond.selects RX0 yX0_copyState yX0_copyState) ∈ lw_tbl := wsL_in_r5 _ (List.mem_of_getElem? (i := 21) rfl)
theorem mw_5_20 : (Cond.instanceMethod yX0_copyState) ∈ lw_tbl := wsL_in_r5 _ (List.mem_of_getElem? (i := 20) rfl)
theorem mw_5_19 : (Cond.code yX2_stateAt cX2_stateAt 3 (some (.object "LaceRanks$Carnival"))) ∈ lw_tbl := wsL_in_r5 _ (List.mem_of_getElem? (i := 19) rfl)
theorem mw_5_18 : (Cond.selects RX2 yX2_stateAt yX2_stateAt) ∈ lw_tbl := wsL_in_r5 _ (List.mem_of_getElem? (i := 18) rfl)
theorem mw_5_17 : (Cond.instanceMethod yX2_stateAt) ∈ lw_tbl := wsL_in_r5 _ (List.mem_of_getElem? (i := 17) rfl)
theorem mw_5_16 : (Cond.methodLink RX2 25 yX2_stateAt) ∈ lw_tbl := wsL_in_r5 _ (List.mem_of_getElem? (i := 16) rfl)
theorem mw_5_15 : (Cond.fieldLink RX2 22 "LaceRanks$History" "oldest" "I") ∈ lw_tbl := wsL_in_r5 _ (List.mem_of_getElem? (i := 15) rfl)
theorem mw_5_14 : (Cond.fieldLink RX2 18 "LaceRanks$History" "size" "I") ∈ lw_tbl := wsL_in_r5 _ (List.mem_of_getElem? (i := 14) rfl)
theorem mw_5_13 : (Cond.code yX2_save cX2_save 3 none) ∈ lw_tbl := wsL_in_r5 _ (List.mem_of_getElem? (i := 13) rfl)
theorem mw_5_12 : (Cond.selects RX2 yX2_save yX2_save) ∈ lw_tbl := wsL_in_r5 _ (List.mem_of_getElem? (i := 12) rfl)
theorem memT_wsL_come_r2 : ∀ w ∈ wsL_come_r2, w ∈ lw_tbl := by
  unfold wsL_come_r2
  exact (List.forall_mem_cons.mpr ⟨mw_5_12, (List.forall_mem_cons.mpr ⟨mw_5_13, (List.forall_mem_cons.mpr ⟨mw_5_14, (List.forall_mem_cons.mpr ⟨mw_5_15, (List.forall_mem_cons.mpr ⟨mw_5_16, (List.forall_mem_cons.mpr ⟨mw_5_17, (List.forall_mem_cons.mpr ⟨mw_5_18, (List.forall_mem_cons.mpr ⟨mw_5_19, (List.forall_mem_cons.mpr ⟨mw_4_0, (List.forall_mem_cons.mpr ⟨mw_5_20, (List.forall_mem_cons.mpr ⟨mw_1_15, (List.forall_mem_cons.mpr ⟨mw_5_21, (List.forall_mem_cons.mpr ⟨mw_5_22, (List.forall_mem_cons.mpr ⟨mw_2_9, (List.forall_mem_cons.mpr ⟨mw_2_13, (List.forall_mem_cons.mpr ⟨mw_2_15, (List.forall_mem_cons.mpr ⟨mw_5_23, (List.forall_mem_cons.mpr ⟨mw_6_0, (List.forall_mem_cons.mpr ⟨mw_6_1, (List.forall_mem_cons.mpr ⟨mw_6_2, (List.forall_mem_cons.mpr ⟨mw_6_3, (List.forall_mem_cons.mpr ⟨mw_6_4, (List.forall_mem_cons.mpr ⟨mw_6_5, (List.forall_mem_cons.mpr ⟨mw_2_16, (fun _ h => absurd h List.not_mem_nil)⟩)⟩)⟩)⟩)⟩)⟩)⟩)⟩)⟩)⟩)⟩)⟩)⟩)⟩)⟩)⟩)⟩)⟩)⟩)⟩)⟩)⟩)⟩)⟩)
theorem mw_6_9 : (Cond.fieldLink RX1 36 "LaceRanks$Guests" "size" "I") ∈ lw_tbl := wsL_in_r6 _ (List.mem_of_getElem? (i := 9) rfl)
theorem mw_6_8 : (Cond.code yX1_copyGuests cX1_copyGuests 2 none) ∈ lw_tbl := wsL_in_r6 _ (List.mem_of_getElem? (i := 8) rfl)
theorem mw_6_7 : (Cond.selects RX1 yX1_copyGuests yX1_copyGuests) ∈ lw_tbl := wsL_in_r6 _ (List.mem_of_getElem? (i := 7) rfl)
theorem mw_6_6 : (Cond.instanceMethod yX1_copyGuests) ∈ lw_tbl := wsL_in_r6 _ (List.mem_of_getElem? (i := 6) rfl)
theorem memT_wsL_come_r3 : ∀ w ∈ wsL_come_r3, w ∈ lw_tbl := by
  unfold wsL_come_r3
  exact (List.forall_mem_cons.mpr ⟨mw_2_17, (List.forall_mem_cons.mpr ⟨mw_6_6, (List.forall_mem_cons.mpr ⟨mw_2_8, (List.forall_mem_cons.mpr ⟨mw_6_7, (List.forall_mem_cons.mpr ⟨mw_6_8, (List.forall_mem_cons.mpr ⟨mw_2_21, (List.forall_mem_cons.mpr ⟨mw_2_22, (List.forall_mem_cons.mpr ⟨mw_2_23, (List.forall_mem_cons.mpr ⟨mw_3_0, (List.forall_mem_cons.mpr ⟨mw_3_1, (List.forall_mem_cons.mpr ⟨mw_3_2, (List.forall_mem_cons.mpr ⟨mw_3_3, (List.forall_mem_cons.mpr ⟨mw_3_4, (List.forall_mem_cons.mpr ⟨mw_6_9, (List.forall_mem_cons.mpr ⟨mw_3_10, (List.forall_mem_cons.mpr ⟨mw_3_11, (List.forall_mem_cons.mpr ⟨mw_3_12, (List.forall_mem_cons.mpr ⟨mw_3_13, (List.forall_mem_cons.mpr ⟨mw_3_14, (List.forall_mem_cons.mpr ⟨mw_3_15, (List.forall_mem_cons.mpr ⟨mw_3_16, (List.forall_mem_cons.mpr ⟨mw_3_17, (List.forall_mem_cons.mpr ⟨mw_3_18, (List.forall_mem_cons.mpr ⟨mw_3_19, (fun _ h => absurd h List.not_mem_nil)⟩)⟩)⟩)⟩)⟩)⟩)⟩)⟩)⟩)⟩)⟩)⟩)⟩)⟩)⟩)⟩)⟩)⟩)⟩)⟩)⟩)⟩)⟩)⟩)
theorem mw_6_20 : (Cond.code yX5_put cX5_put 3 none) ∈ lw_tbl := wsL_in_r6 _ (List.mem_of_getElem? (i := 20) rfl)
theorem mw_6_19 : (Cond.static yX5_put) ∈ lw_tbl := wsL_in_r6 _ (List.mem_of_getElem? (i := 19) rfl)
theorem mw_6_18 : (Cond.code yX1_takeIn cX1_takeIn 5 (some .int)) ∈ lw_tbl := wsL_in_r6 _ (List.mem_of_getElem? (i := 18) rfl)
theorem mw_6_17 : (Cond.selects RX1 yX1_takeIn yX1_takeIn) ∈ lw_tbl := wsL_in_r6 _ (List.mem_of_getElem? (i := 17) rfl)
theorem mw_6_16 : (Cond.instanceMethod yX1_takeIn) ∈ lw_tbl := wsL_in_r6 _ (List.mem_of_getElem? (i := 16) rfl)
theorem mw_6_15 : (Cond.code yX0_welcome cX0_welcome 4 (some .int)) ∈ lw_tbl := wsL_in_r6 _ (List.mem_of_getElem? (i := 15) rfl)
theorem mw_6_14 : (Cond.selects RX0 yX0_welcome yX0_welcome) ∈ lw_tbl := wsL_in_r6 _ (List.mem_of_getElem? (i := 14) rfl)
theorem mw_6_13 : (Cond.instanceMethod yX0_welcome) ∈ lw_tbl := wsL_in_r6 _ (List.mem_of_getElem? (i := 13) rfl)
theorem mw_6_12 : (Cond.code yX3_copyLines cX3_copyLines 2 none) ∈ lw_tbl := wsL_in_r6 _ (List.mem_of_getElem? (i := 12) rfl)
theorem mw_6_11 : (Cond.selects RX3 yX3_copyLines yX3_copyLines) ∈ lw_tbl := wsL_in_r6 _ (List.mem_of_getElem? (i := 11) rfl)
theorem mw_6_10 : (Cond.instanceMethod yX3_copyLines) ∈ lw_tbl := wsL_in_r6 _ (List.mem_of_getElem? (i := 10) rfl)
theorem memT_wsL_come_r4 : ∀ w ∈ wsL_come_r4, w ∈ lw_tbl := by
  unfold wsL_come_r4
  exact (List.forall_mem_cons.mpr ⟨mw_6_10, (List.forall_mem_cons.mpr ⟨mw_2_12, (List.forall_mem_cons.mpr ⟨mw_6_11, (List.forall_mem_cons.mpr ⟨mw_6_12, (List.forall_mem_cons.mpr ⟨mw_3_8, (List.forall_mem_cons.mpr ⟨mw_3_9, (List.forall_mem_cons.mpr ⟨mw_6_13, (List.forall_mem_cons.mpr ⟨mw_6_14, (List.forall_mem_cons.mpr ⟨mw_6_15, (List.forall_mem_cons.mpr ⟨mw_6_16, (List.forall_mem_cons.mpr ⟨mw_6_17, (List.forall_mem_cons.mpr ⟨mw_6_18, (List.forall_mem_cons.mpr ⟨mw_6_19, (List.forall_mem_cons.mpr ⟨mw_6_20, (fun _ h => absurd h List.not_mem_nil)⟩)⟩)⟩)⟩)⟩)⟩)⟩)⟩)⟩)⟩)⟩)⟩)⟩)⟩)
theorem memT_wsL_come : ∀ w ∈ wsL_come, w ∈ lw_tbl := by
  unfold wsL_come
  exact (List.forall_mem_cons.mpr ⟨mw_4_15, (List.forall_mem_append.mpr ⟨(List.forall_mem_append.mpr ⟨(List.forall_mem_append.mpr ⟨(List.forall_mem_append.mpr ⟨(List.forall_mem_append.mpr ⟨(List.forall_mem_append.mpr ⟨(List.forall_mem_append.mpr ⟨(List.forall_mem_append.mpr ⟨memT_wsL_come_r1, (List.forall_mem_append.mpr ⟨memT_wsL_come_r2, (List.forall_mem_append.mpr ⟨memT_wsL_come_r3, memT_wsL_come_r4⟩)⟩)⟩), inX5⟩), inX0⟩), inX1⟩), inX2⟩), inX3⟩), wsL_law__x0⟩), wsL_law__x1⟩)⟩)
theorem mw_4_14 : (Cond.initialized RL) ∈ lw_tbl := wsL_in_r4 _ (List.mem_of_getElem? (i := 14) rfl)
theorem mw_4_13 : (Cond.static yL_come) ∈ lw_tbl := wsL_in_r4 _ (List.mem_of_getElem? (i := 13) rfl)
theorem mw_4_12 : (Cond.methodLink RL 96 yL_come) ∈ lw_tbl := wsL_in_r4 _ (List.mem_of_getElem? (i := 12) rfl)
set_option maxRecDepth 20000 in
theorem gT_L_come : GoodIn lw_tbl (va_wsS RL 96 yL_come wsL_come) := goodIn_sub (by
  unfold va_wsS
  exact List.forall_mem_append.mpr ⟨(List.forall_mem_cons.mpr ⟨mw_4_12, (List.forall_mem_cons.mpr ⟨mw_4_13, (List.forall_mem_cons.mpr ⟨mw_4_14, (fun _ h => absurd h List.not_mem_nil)⟩)⟩)⟩), memT_wsL_come⟩) (by decide +kernel)
theorem mw_7_0 : (Cond.code yX6_come cX6_come 7 (some .int)) ∈ lw_tbl := wsL_in_r7 _ (List.mem_of_getElem? (i := 0) rfl)
theorem mw_7_21 : (Cond.code yX6_lay cX6_lay 4 none) ∈ lw_tbl := wsL_in_r7 _ (List.mem_of_getElem? (i := 21) rfl)
theorem mw_7_20 : (Cond.selects RX6 yX6_lay yX6_lay) ∈ lw_tbl := wsL_in_r7 _ (List.mem_of_getElem? (i := 20) rfl)
theorem mw_7_19 : (Cond.instanceMethod yX6_lay) ∈ lw_tbl := wsL_in_r7 _ (List.mem_of_getElem? (i := 19) rfl)
theorem mw_7_18 : (Cond.methodLink RX6 35 yX6_lay) ∈ lw_tbl := wsL_in_r7 _ (List.mem_of_getElem? (i := 18) rfl)
theorem mw_7_17 : (Cond.code yX6_copies cX6_copies 4 none) ∈ lw_tbl := wsL_in_r7 _ (List.mem_of_getElem? (i := 17) rfl)
theorem mw_7_16 : (Cond.selects RX6 yX6_copies yX6_copies) ∈ lw_tbl := wsL_in_r7 _ (List.mem_of_getElem? (i := 16) rfl)
theorem mw_7_15 : (Cond.instanceMethod yX6_copies) ∈ lw_tbl := wsL_in_r7 _ (List.mem_of_getElem? (i := 15) rfl)
theorem mw_7_14 : (Cond.methodLink RX6 69 yX6_copies) ∈ lw_tbl := wsL_in_r7 _ (List.mem_of_getElem? (i := 14) rfl)
theorem mw_7_13 : (Cond.fieldLink RX6 66 "LaceRanksModel" "saved" "I") ∈ lw_tbl := wsL_in_r7 _ (List.mem_of_getElem? (i := 13) rfl)
theorem mw_7_12 : (Cond.code yX6_save cX6_save 2 none) ∈ lw_tbl := wsL_in_r7 _ (List.mem_of_getElem? (i := 12) rfl)
theorem mw_7_11 : (Cond.selects RX6 yX6_save yX6_save) ∈ lw_tbl := wsL_in_r7 _ (List.mem_of_getElem? (i := 11) rfl)
theorem mw_7_10 : (Cond.instanceMethod yX6_save) ∈ lw_tbl := wsL_in_r7 _ (List.mem_of_getElem? (i := 10) rfl)
theorem mw_7_9 : (Cond.methodLink RX6 75 yX6_save) ∈ lw_tbl := wsL_in_r7 _ (List.mem_of_getElem? (i := 9) rfl)
theorem mw_7_8 : (Cond.fieldLink RX6 19 "LaceRanksModel" "thrown" "I") ∈ lw_tbl := wsL_in_r7 _ (List.mem_of_getElem? (i := 8) rfl)
theorem mw_7_7 : (Cond.code yX6_holds cX6_holds 2 (some .boolean)) ∈ lw_tbl := wsL_in_r7 _ (List.mem_of_getElem? (i := 7) rfl)
theorem mw_7_6 : (Cond.selects RX6 yX6_holds yX6_holds) ∈ lw_tbl := wsL_in_r7 _ (List.mem_of_getElem? (i := 6) rfl)
theorem mw_7_5 : (Cond.instanceMethod yX6_holds) ∈ lw_tbl := wsL_in_r7 _ (List.mem_of_getElem? (i := 5) rfl)
theorem mw_7_4 : (Cond.methodLink RX6 72 yX6_holds) ∈ lw_tbl := wsL_in_r7 _ (List.mem_of_getElem? (i := 4) rfl)
theorem mw_7_3 : (Cond.code yX6_in cX6_in 3 (some .boolean)) ∈ lw_tbl := wsL_in_r7 _ (List.mem_of_getElem? (i := 3) rfl)
theorem mw_1_5 : (Cond.initialized RX6) ∈ lw_tbl := wsL_in_r1 _ (List.mem_of_getElem? (i := 5) rfl)
theorem mw_7_2 : (Cond.static yX6_in) ∈ lw_tbl := wsL_in_r7 _ (List.mem_of_getElem? (i := 2) rfl)
theorem mw_7_1 : (Cond.methodLink RX6 23 yX6_in) ∈ lw_tbl := wsL_in_r7 _ (List.mem_of_getElem? (i := 1) rfl)
theorem memT_wsX6_come : ∀ w ∈ wsX6_come, w ∈ lw_tbl := by
  unfold wsX6_come
  exact (List.forall_mem_cons.mpr ⟨mw_7_0, (List.forall_mem_append.mpr ⟨(List.forall_mem_cons.mpr ⟨mw_4_9, (List.forall_mem_cons.mpr ⟨mw_7_1, (List.forall_mem_cons.mpr ⟨mw_7_2, (List.forall_mem_cons.mpr ⟨mw_1_5, (List.forall_mem_cons.mpr ⟨mw_7_3, (List.forall_mem_cons.mpr ⟨mw_7_4, (List.forall_mem_cons.mpr ⟨mw_7_5, (List.forall_mem_cons.mpr ⟨mw_7_6, (List.forall_mem_cons.mpr ⟨mw_7_7, (List.forall_mem_cons.mpr ⟨mw_7_8, (List.forall_mem_cons.mpr ⟨mw_7_9, (List.forall_mem_cons.mpr ⟨mw_7_10, (List.forall_mem_cons.mpr ⟨mw_7_11, (List.forall_mem_cons.mpr ⟨mw_7_12, (List.forall_mem_cons.mpr ⟨mw_7_13, (List.forall_mem_cons.mpr ⟨mw_7_14, (List.forall_mem_cons.mpr ⟨mw_7_15, (List.forall_mem_cons.mpr ⟨mw_7_16, (List.forall_mem_cons.mpr ⟨mw_7_17, (List.forall_mem_cons.mpr ⟨mw_7_18, (List.forall_mem_cons.mpr ⟨mw_7_19, (List.forall_mem_cons.mpr ⟨mw_7_20, (List.forall_mem_cons.mpr ⟨mw_7_21, (fun _ h => absurd h List.not_mem_nil)⟩)⟩)⟩)⟩)⟩)⟩)⟩)⟩)⟩)⟩)⟩)⟩)⟩)⟩)⟩)⟩)⟩)⟩)⟩)⟩)⟩)⟩)⟩), inX6⟩)⟩)
theorem mw_6_23 : (Cond.selects RX6 yX6_come yX6_come) ∈ lw_tbl := wsL_in_r6 _ (List.mem_of_getElem? (i := 23) rfl)
theorem mw_6_22 : (Cond.instanceMethod yX6_come) ∈ lw_tbl := wsL_in_r6 _ (List.mem_of_getElem? (i := 22) rfl)
theorem mw_6_21 : (Cond.methodLink RL 101 yX6_come) ∈ lw_tbl := wsL_in_r6 _ (List.mem_of_getElem? (i := 21) rfl)
set_option maxRecDepth 20000 in
theorem gT_X6_come : GoodIn lw_tbl (wsV RL 101 RX6 yX6_come wsX6_come) := goodIn_sub (by
  unfold wsV
  exact List.forall_mem_append.mpr ⟨(List.forall_mem_cons.mpr ⟨mw_6_21, (List.forall_mem_cons.mpr ⟨mw_6_22, (List.forall_mem_cons.mpr ⟨mw_6_23, (List.forall_mem_cons.mpr ⟨mw_1_5, (fun _ h => absurd h List.not_mem_nil)⟩)⟩)⟩)⟩), memT_wsX6_come⟩) (by decide +kernel)
theorem mw_8_1 : (Cond.code yX6_thrown cX6_thrown 1 (some .int)) ∈ lw_tbl := wsL_in_r8 _ (List.mem_of_getElem? (i := 1) rfl)
theorem memT_wsX6_thrown : ∀ w ∈ wsX6_thrown, w ∈ lw_tbl := by
  unfold wsX6_thrown
  exact (List.forall_mem_cons.mpr ⟨mw_8_1, (List.forall_mem_append.mpr ⟨(List.forall_mem_cons.mpr ⟨mw_7_8, (fun _ h => absurd h List.not_mem_nil)⟩), inX6⟩)⟩)
theorem mw_8_0 : (Cond.selects RX6 yX6_thrown yX6_thrown) ∈ lw_tbl := wsL_in_r8 _ (List.mem_of_getElem? (i := 0) rfl)
theorem mw_7_23 : (Cond.instanceMethod yX6_thrown) ∈ lw_tbl := wsL_in_r7 _ (List.mem_of_getElem? (i := 23) rfl)
theorem mw_7_22 : (Cond.methodLink RL 102 yX6_thrown) ∈ lw_tbl := wsL_in_r7 _ (List.mem_of_getElem? (i := 22) rfl)
set_option maxRecDepth 20000 in
theorem gT_X6_thrown : GoodIn lw_tbl (wsV RL 102 RX6 yX6_thrown wsX6_thrown) := goodIn_sub (by
  unfold wsV
  exact List.forall_mem_append.mpr ⟨(List.forall_mem_cons.mpr ⟨mw_7_22, (List.forall_mem_cons.mpr ⟨mw_7_23, (List.forall_mem_cons.mpr ⟨mw_8_0, (List.forall_mem_cons.mpr ⟨mw_1_5, (fun _ h => absurd h List.not_mem_nil)⟩)⟩)⟩)⟩), memT_wsX6_thrown⟩) (by decide +kernel)
theorem mw_8_4 : (Cond.codeWith yL_leave cL_leave 4 (some .int) [(0, 9, 12, 21), (0, 9, 15, 15)]) ∈ lw_tbl := wsL_in_r8 _ (List.mem_of_getElem? (i := 4) rfl)
theorem mw_8_21 : (Cond.code yX0_canGo cX0_canGo 2 (some .boolean)) ∈ lw_tbl := wsL_in_r8 _ (List.mem_of_getElem? (i := 21) rfl)
theorem mw_8_20 : (Cond.selects RX0 yX0_canGo yX0_canGo) ∈ lw_tbl := wsL_in_r8 _ (List.mem_of_getElem? (i := 20) rfl)
theorem mw_8_19 : (Cond.instanceMethod yX0_canGo) ∈ lw_tbl := wsL_in_r8 _ (List.mem_of_getElem? (i := 19) rfl)
theorem mw_8_18 : (Cond.code yX1_has cX1_has 2 (some .boolean)) ∈ lw_tbl := wsL_in_r8 _ (List.mem_of_getElem? (i := 18) rfl)
theorem mw_8_17 : (Cond.selects RX1 yX1_has yX1_has) ∈ lw_tbl := wsL_in_r8 _ (List.mem_of_getElem? (i := 17) rfl)
theorem mw_8_16 : (Cond.instanceMethod yX1_has) ∈ lw_tbl := wsL_in_r8 _ (List.mem_of_getElem? (i := 16) rfl)
theorem mw_8_15 : (Cond.initialized "java/lang/IndexOutOfBoundsException") ∈ lw_tbl := wsL_in_r8 _ (List.mem_of_getElem? (i := 15) rfl)
theorem mw_8_14 : (Cond.classLink RX5 239 "java/lang/IndexOutOfBoundsException") ∈ lw_tbl := wsL_in_r8 _ (List.mem_of_getElem? (i := 14) rfl)
theorem mw_8_13 : (Cond.code yX5_needGuest cX5_needGuest 2 none) ∈ lw_tbl := wsL_in_r8 _ (List.mem_of_getElem? (i := 13) rfl)
theorem mw_8_12 : (Cond.selects RX5 yX5_needGuest yX5_needGuest) ∈ lw_tbl := wsL_in_r8 _ (List.mem_of_getElem? (i := 12) rfl)
theorem mw_8_11 : (Cond.instanceMethod yX5_needGuest) ∈ lw_tbl := wsL_in_r8 _ (List.mem_of_getElem? (i := 11) rfl)
theorem mw_8_10 : (Cond.methodLink RX5 66 yX5_needGuest) ∈ lw_tbl := wsL_in_r8 _ (List.mem_of_getElem? (i := 10) rfl)
theorem mw_8_9 : (Cond.code yX5_leave cX5_leave 2 (some .int)) ∈ lw_tbl := wsL_in_r8 _ (List.mem_of_getElem? (i := 9) rfl)
theorem mw_8_8 : (Cond.selects RX5 yX5_leave yX5_leave) ∈ lw_tbl := wsL_in_r8 _ (List.mem_of_getElem? (i := 8) rfl)
theorem mw_8_7 : (Cond.instanceMethod yX5_leave) ∈ lw_tbl := wsL_in_r8 _ (List.mem_of_getElem? (i := 7) rfl)
theorem mw_8_6 : (Cond.methodLink RL 17 yX5_leave) ∈ lw_tbl := wsL_in_r8 _ (List.mem_of_getElem? (i := 6) rfl)
theorem mw_8_5 : (Cond.classLink RL 21 "java/lang/IndexOutOfBoundsException") ∈ lw_tbl := wsL_in_r8 _ (List.mem_of_getElem? (i := 5) rfl)
theorem memT_wsL_leave_r1 : ∀ w ∈ wsL_leave_r1, w ∈ lw_tbl := by
  unfold wsL_leave_r1
  exact (List.forall_mem_cons.mpr ⟨mw_8_5, (List.forall_mem_cons.mpr ⟨mw_4_17, (List.forall_mem_cons.mpr ⟨mw_8_6, (List.forall_mem_cons.mpr ⟨mw_8_7, (List.forall_mem_cons.mpr ⟨mw_8_8, (List.forall_mem_cons.mpr ⟨mw_1_2, (List.forall_mem_cons.mpr ⟨mw_8_9, (List.forall_mem_cons.mpr ⟨mw_1_16, (List.forall_mem_cons.mpr ⟨mw_1_21, (List.forall_mem_cons.mpr ⟨mw_8_10, (List.forall_mem_cons.mpr ⟨mw_8_11, (List.forall_mem_cons.mpr ⟨mw_8_12, (List.forall_mem_cons.mpr ⟨mw_8_13, (List.forall_mem_cons.mpr ⟨mw_8_14, (List.forall_mem_cons.mpr ⟨mw_8_15, (List.forall_mem_cons.mpr ⟨mw_8_16, (List.forall_mem_cons.mpr ⟨mw_2_8, (List.forall_mem_cons.mpr ⟨mw_8_17, (List.forall_mem_cons.mpr ⟨mw_8_18, (List.forall_mem_cons.mpr ⟨mw_6_9, (List.forall_mem_cons.mpr ⟨mw_8_19, (List.forall_mem_cons.mpr ⟨mw_1_15, (List.forall_mem_cons.mpr ⟨mw_8_20, (List.forall_mem_cons.mpr ⟨mw_8_21, (fun _ h => absurd h List.not_mem_nil)⟩)⟩)⟩)⟩)⟩)⟩)⟩)⟩)⟩)⟩)⟩)⟩)⟩)⟩)⟩)⟩)⟩)⟩)⟩)⟩)⟩)⟩)⟩)⟩)
theorem mw_9_12 : (Cond.code yX3_spotOf cX3_spotOf 5 (some .int)) ∈ lw_tbl := wsL_in_r9 _ (List.mem_of_getElem? (i := 12) rfl)
theorem mw_9_11 : (Cond.selects RX3 yX3_spotOf yX3_spotOf) ∈ lw_tbl := wsL_in_r9 _ (List.mem_of_getElem? (i := 11) rfl)
theorem mw_9_10 : (Cond.instanceMethod yX3_spotOf) ∈ lw_tbl := wsL_in_r9 _ (List.mem_of_getElem? (i := 10) rfl)
theorem mw_9_9 : (Cond.methodLink RX3 30 yX3_spotOf) ∈ lw_tbl := wsL_in_r9 _ (List.mem_of_getElem? (i := 9) rfl)
theorem mw_9_8 : (Cond.code yX3_gateOf cX3_gateOf 3 (some .int)) ∈ lw_tbl := wsL_in_r9 _ (List.mem_of_getElem? (i := 8) rfl)
theorem mw_9_7 : (Cond.selects RX3 yX3_gateOf yX3_gateOf) ∈ lw_tbl := wsL_in_r9 _ (List.mem_of_getElem? (i := 7) rfl)
theorem mw_9_6 : (Cond.instanceMethod yX3_gateOf) ∈ lw_tbl := wsL_in_r9 _ (List.mem_of_getElem? (i := 6) rfl)
theorem mw_9_5 : (Cond.code yX1_isIn cX1_isIn 2 (some .boolean)) ∈ lw_tbl := wsL_in_r9 _ (List.mem_of_getElem? (i := 5) rfl)
theorem mw_9_4 : (Cond.selects RX1 yX1_isIn yX1_isIn) ∈ lw_tbl := wsL_in_r9 _ (List.mem_of_getElem? (i := 4) rfl)
theorem mw_9_3 : (Cond.instanceMethod yX1_isIn) ∈ lw_tbl := wsL_in_r9 _ (List.mem_of_getElem? (i := 3) rfl)
theorem mw_9_2 : (Cond.code yX5_at cX5_at 2 (some .int)) ∈ lw_tbl := wsL_in_r9 _ (List.mem_of_getElem? (i := 2) rfl)
theorem mw_9_1 : (Cond.static yX5_at) ∈ lw_tbl := wsL_in_r9 _ (List.mem_of_getElem? (i := 1) rfl)
theorem mw_9_0 : (Cond.code yX1_wornCoat cX1_wornCoat 3 (some .int)) ∈ lw_tbl := wsL_in_r9 _ (List.mem_of_getElem? (i := 0) rfl)
theorem mw_8_23 : (Cond.selects RX1 yX1_wornCoat yX1_wornCoat) ∈ lw_tbl := wsL_in_r8 _ (List.mem_of_getElem? (i := 23) rfl)
theorem mw_8_22 : (Cond.instanceMethod yX1_wornCoat) ∈ lw_tbl := wsL_in_r8 _ (List.mem_of_getElem? (i := 22) rfl)
theorem memT_wsL_leave_r2 : ∀ w ∈ wsL_leave_r2, w ∈ lw_tbl := by
  unfold wsL_leave_r2
  exact (List.forall_mem_cons.mpr ⟨mw_2_9, (List.forall_mem_cons.mpr ⟨mw_2_13, (List.forall_mem_cons.mpr ⟨mw_8_22, (List.forall_mem_cons.mpr ⟨mw_8_23, (List.forall_mem_cons.mpr ⟨mw_9_0, (List.forall_mem_cons.mpr ⟨mw_3_1, (List.forall_mem_cons.mpr ⟨mw_3_2, (List.forall_mem_cons.mpr ⟨mw_9_1, (List.forall_mem_cons.mpr ⟨mw_9_2, (List.forall_mem_cons.mpr ⟨mw_9_3, (List.forall_mem_cons.mpr ⟨mw_9_4, (List.forall_mem_cons.mpr ⟨mw_9_5, (List.forall_mem_cons.mpr ⟨mw_3_4, (List.forall_mem_cons.mpr ⟨mw_9_6, (List.forall_mem_cons.mpr ⟨mw_2_12, (List.forall_mem_cons.mpr ⟨mw_9_7, (List.forall_mem_cons.mpr ⟨mw_9_8, (List.forall_mem_cons.mpr ⟨mw_9_9, (List.forall_mem_cons.mpr ⟨mw_9_10, (List.forall_mem_cons.mpr ⟨mw_9_11, (List.forall_mem_cons.mpr ⟨mw_9_12, (List.forall_mem_cons.mpr ⟨mw_3_9, (List.forall_mem_cons.mpr ⟨mw_3_8, (List.forall_mem_cons.mpr ⟨mw_5_6, (fun _ h => absurd h List.not_mem_nil)⟩)⟩)⟩)⟩)⟩)⟩)⟩)⟩)⟩)⟩)⟩)⟩)⟩)⟩)⟩)⟩)⟩)⟩)⟩)⟩)⟩)⟩)⟩)⟩)
theorem memT_wsL_leave_r3 : ∀ w ∈ wsL_leave_r3, w ∈ lw_tbl := by
  unfold wsL_leave_r3
  exact (List.forall_mem_cons.mpr ⟨mw_5_7, (List.forall_mem_cons.mpr ⟨mw_5_8, (List.forall_mem_cons.mpr ⟨mw_5_9, (List.forall_mem_cons.mpr ⟨mw_5_10, (List.forall_mem_cons.mpr ⟨mw_5_11, (List.forall_mem_cons.mpr ⟨mw_1_20, (List.forall_mem_cons.mpr ⟨mw_5_12, (List.forall_mem_cons.mpr ⟨mw_5_13, (List.forall_mem_cons.mpr ⟨mw_5_14, (List.forall_mem_cons.mpr ⟨mw_5_15, (List.forall_mem_cons.mpr ⟨mw_5_16, (List.forall_mem_cons.mpr ⟨mw_5_17, (List.forall_mem_cons.mpr ⟨mw_5_18, (List.forall_mem_cons.mpr ⟨mw_5_19, (List.forall_mem_cons.mpr ⟨mw_4_0, (List.forall_mem_cons.mpr ⟨mw_5_20, (List.forall_mem_cons.mpr ⟨mw_5_21, (List.forall_mem_cons.mpr ⟨mw_5_22, (List.forall_mem_cons.mpr ⟨mw_2_15, (List.forall_mem_cons.mpr ⟨mw_5_23, (List.forall_mem_cons.mpr ⟨mw_6_0, (List.forall_mem_cons.mpr ⟨mw_6_1, (List.forall_mem_cons.mpr ⟨mw_6_2, (List.forall_mem_cons.mpr ⟨mw_6_3, (fun _ h => absurd h List.not_mem_nil)⟩)⟩)⟩)⟩)⟩)⟩)⟩)⟩)⟩)⟩)⟩)⟩)⟩)⟩)⟩)⟩)⟩)⟩)⟩)⟩)⟩)⟩)⟩)⟩)
theorem memT_wsL_leave_r4 : ∀ w ∈ wsL_leave_r4, w ∈ lw_tbl := by
  unfold wsL_leave_r4
  exact (List.forall_mem_cons.mpr ⟨mw_6_4, (List.forall_mem_cons.mpr ⟨mw_6_5, (List.forall_mem_cons.mpr ⟨mw_2_16, (List.forall_mem_cons.mpr ⟨mw_2_17, (List.forall_mem_cons.mpr ⟨mw_6_6, (List.forall_mem_cons.mpr ⟨mw_6_7, (List.forall_mem_cons.mpr ⟨mw_6_8, (List.forall_mem_cons.mpr ⟨mw_2_21, (List.forall_mem_cons.mpr ⟨mw_2_22, (List.forall_mem_cons.mpr ⟨mw_2_23, (List.forall_mem_cons.mpr ⟨mw_3_0, (List.forall_mem_cons.mpr ⟨mw_3_3, (List.forall_mem_cons.mpr ⟨mw_3_10, (List.forall_mem_cons.mpr ⟨mw_3_11, (List.forall_mem_cons.mpr ⟨mw_3_12, (List.forall_mem_cons.mpr ⟨mw_3_13, (List.forall_mem_cons.mpr ⟨mw_3_14, (List.forall_mem_cons.mpr ⟨mw_3_15, (List.forall_mem_cons.mpr ⟨mw_3_16, (List.forall_mem_cons.mpr ⟨mw_3_17, (List.forall_mem_cons.mpr ⟨mw_3_18, (List.forall_mem_cons.mpr ⟨mw_3_19, (List.forall_mem_cons.mpr ⟨mw_6_10, (List.forall_mem_cons.mpr ⟨mw_6_11, (fun _ h => absurd h List.not_mem_nil)⟩)⟩)⟩)⟩)⟩)⟩)⟩)⟩)⟩)⟩)⟩)⟩)⟩)⟩)⟩)⟩)⟩)⟩)⟩)⟩)⟩)⟩)⟩)⟩)
theorem mw_10_4 : (Cond.code yX3_renumberWithout cX3_renumberWithout 3 none) ∈ lw_tbl := wsL_in_r10 _ (List.mem_of_getElem? (i := 4) rfl)
theorem mw_10_3 : (Cond.selects RX3 yX3_renumberWithout yX3_renumberWithout) ∈ lw_tbl := wsL_in_r10 _ (List.mem_of_getElem? (i := 3) rfl)
theorem mw_10_2 : (Cond.instanceMethod yX3_renumberWithout) ∈ lw_tbl := wsL_in_r10 _ (List.mem_of_getElem? (i := 2) rfl)
theorem mw_10_1 : (Cond.code yX1_numberWithout cX1_numberWithout 2 (some .int)) ∈ lw_tbl := wsL_in_r10 _ (List.mem_of_getElem? (i := 1) rfl)
theorem mw_10_0 : (Cond.static yX1_numberWithout) ∈ lw_tbl := wsL_in_r10 _ (List.mem_of_getElem? (i := 0) rfl)
theorem mw_9_23 : (Cond.methodLink RX1 52 yX1_numberWithout) ∈ lw_tbl := wsL_in_r9 _ (List.mem_of_getElem? (i := 23) rfl)
theorem mw_9_22 : (Cond.code yX1_closeGap cX1_closeGap 4 none) ∈ lw_tbl := wsL_in_r9 _ (List.mem_of_getElem? (i := 22) rfl)
theorem mw_9_21 : (Cond.selects RX1 yX1_closeGap yX1_closeGap) ∈ lw_tbl := wsL_in_r9 _ (List.mem_of_getElem? (i := 21) rfl)
theorem mw_9_20 : (Cond.instanceMethod yX1_closeGap) ∈ lw_tbl := wsL_in_r9 _ (List.mem_of_getElem? (i := 20) rfl)
theorem mw_9_19 : (Cond.methodLink RX1 44 yX1_closeGap) ∈ lw_tbl := wsL_in_r9 _ (List.mem_of_getElem? (i := 19) rfl)
theorem mw_9_18 : (Cond.code yX1_takeOut cX1_takeOut 3 none) ∈ lw_tbl := wsL_in_r9 _ (List.mem_of_getElem? (i := 18) rfl)
theorem mw_9_17 : (Cond.selects RX1 yX1_takeOut yX1_takeOut) ∈ lw_tbl := wsL_in_r9 _ (List.mem_of_getElem? (i := 17) rfl)
theorem mw_9_16 : (Cond.instanceMethod yX1_takeOut) ∈ lw_tbl := wsL_in_r9 _ (List.mem_of_getElem? (i := 16) rfl)
theorem mw_9_15 : (Cond.code yX0_letGo cX0_letGo 3 (some .int)) ∈ lw_tbl := wsL_in_r9 _ (List.mem_of_getElem? (i := 15) rfl)
theorem mw_9_14 : (Cond.selects RX0 yX0_letGo yX0_letGo) ∈ lw_tbl := wsL_in_r9 _ (List.mem_of_getElem? (i := 14) rfl)
theorem mw_9_13 : (Cond.instanceMethod yX0_letGo) ∈ lw_tbl := wsL_in_r9 _ (List.mem_of_getElem? (i := 13) rfl)
theorem memT_wsL_leave_r5 : ∀ w ∈ wsL_leave_r5, w ∈ lw_tbl := by
  unfold wsL_leave_r5
  exact (List.forall_mem_cons.mpr ⟨mw_6_12, (List.forall_mem_cons.mpr ⟨mw_9_13, (List.forall_mem_cons.mpr ⟨mw_9_14, (List.forall_mem_cons.mpr ⟨mw_9_15, (List.forall_mem_cons.mpr ⟨mw_9_16, (List.forall_mem_cons.mpr ⟨mw_9_17, (List.forall_mem_cons.mpr ⟨mw_9_18, (List.forall_mem_cons.mpr ⟨mw_9_19, (List.forall_mem_cons.mpr ⟨mw_9_20, (List.forall_mem_cons.mpr ⟨mw_9_21, (List.forall_mem_cons.mpr ⟨mw_9_22, (List.forall_mem_cons.mpr ⟨mw_6_19, (List.forall_mem_cons.mpr ⟨mw_6_20, (List.forall_mem_cons.mpr ⟨mw_9_23, (List.forall_mem_cons.mpr ⟨mw_10_0, (List.forall_mem_cons.mpr ⟨mw_10_1, (List.forall_mem_cons.mpr ⟨mw_10_2, (List.forall_mem_cons.mpr ⟨mw_10_3, (List.forall_mem_cons.mpr ⟨mw_10_4, (fun _ h => absurd h List.not_mem_nil)⟩)⟩)⟩)⟩)⟩)⟩)⟩)⟩)⟩)⟩)⟩)⟩)⟩)⟩)⟩)⟩)⟩)⟩)⟩)
theorem memT_wsL_leave : ∀ w ∈ wsL_leave, w ∈ lw_tbl := by
  unfold wsL_leave
  exact (List.forall_mem_cons.mpr ⟨mw_8_4, (List.forall_mem_append.mpr ⟨(List.forall_mem_append.mpr ⟨(List.forall_mem_append.mpr ⟨(List.forall_mem_append.mpr ⟨(List.forall_mem_append.mpr ⟨(List.forall_mem_append.mpr ⟨(List.forall_mem_append.mpr ⟨(List.forall_mem_append.mpr ⟨memT_wsL_leave_r1, (List.forall_mem_append.mpr ⟨memT_wsL_leave_r2, (List.forall_mem_append.mpr ⟨memT_wsL_leave_r3, (List.forall_mem_append.mpr ⟨memT_wsL_leave_r4, memT_wsL_leave_r5⟩)⟩)⟩)⟩), inX5⟩), inX0⟩), inX1⟩), inX3⟩), inX2⟩), wsL_law__x2⟩), wsL_law__x1⟩)⟩)
theorem mw_8_3 : (Cond.static yL_leave) ∈ lw_tbl := wsL_in_r8 _ (List.mem_of_getElem? (i := 3) rfl)
theorem mw_8_2 : (Cond.methodLink RL 105 yL_leave) ∈ lw_tbl := wsL_in_r8 _ (List.mem_of_getElem? (i := 2) rfl)
set_option maxRecDepth 20000 in
theorem gT_L_leave : GoodIn lw_tbl (va_wsS RL 105 yL_leave wsL_leave) := goodIn_sub (by
  unfold va_wsS
  exact List.forall_mem_append.mpr ⟨(List.forall_mem_cons.mpr ⟨mw_8_2, (List.forall_mem_cons.mpr ⟨mw_8_3, (List.forall_mem_cons.mpr ⟨mw_4_14, (fun _ h => absurd h List.not_mem_nil)⟩)⟩)⟩), memT_wsL_leave⟩) (by decide +kernel)
theorem mw_10_8 : (Cond.code yX6_leave cX6_leave 7 (some .int)) ∈ lw_tbl := wsL_in_r10 _ (List.mem_of_getElem? (i := 8) rfl)
theorem mw_11_3 : (Cond.selects RX6 yX6_lineLength yX6_lineLength) ∈ lw_tbl := wsL_in_r11 _ (List.mem_of_getElem? (i := 3) rfl)
theorem mw_11_2 : (Cond.instanceMethod yX6_lineLength) ∈ lw_tbl := wsL_in_r11 _ (List.mem_of_getElem? (i := 2) rfl)
theorem mw_11_1 : (Cond.methodLink RX6 39 yX6_lineLength) ∈ lw_tbl := wsL_in_r11 _ (List.mem_of_getElem? (i := 1) rfl)
theorem mw_11_0 : (Cond.code yX6_standing cX6_standing 4 (some .int)) ∈ lw_tbl := wsL_in_r11 _ (List.mem_of_getElem? (i := 0) rfl)
theorem mw_10_23 : (Cond.selects RX6 yX6_standing yX6_standing) ∈ lw_tbl := wsL_in_r10 _ (List.mem_of_getElem? (i := 23) rfl)
theorem mw_10_22 : (Cond.instanceMethod yX6_standing) ∈ lw_tbl := wsL_in_r10 _ (List.mem_of_getElem? (i := 22) rfl)
theorem mw_10_21 : (Cond.methodLink RX6 46 yX6_standing) ∈ lw_tbl := wsL_in_r10 _ (List.mem_of_getElem? (i := 21) rfl)
theorem mw_10_20 : (Cond.code yX6_lentTo cX6_lentTo 3 (some .int)) ∈ lw_tbl := wsL_in_r10 _ (List.mem_of_getElem? (i := 20) rfl)
theorem mw_10_19 : (Cond.selects RX6 yX6_lentTo yX6_lentTo) ∈ lw_tbl := wsL_in_r10 _ (List.mem_of_getElem? (i := 19) rfl)
theorem mw_10_18 : (Cond.instanceMethod yX6_lentTo) ∈ lw_tbl := wsL_in_r10 _ (List.mem_of_getElem? (i := 18) rfl)
theorem mw_10_17 : (Cond.methodLink RX6 81 yX6_lentTo) ∈ lw_tbl := wsL_in_r10 _ (List.mem_of_getElem? (i := 17) rfl)
theorem mw_10_16 : (Cond.code yX6_of cX6_of 3 (some .int)) ∈ lw_tbl := wsL_in_r10 _ (List.mem_of_getElem? (i := 16) rfl)
theorem mw_10_15 : (Cond.selects RX6 yX6_of yX6_of) ∈ lw_tbl := wsL_in_r10 _ (List.mem_of_getElem? (i := 15) rfl)
theorem mw_10_14 : (Cond.instanceMethod yX6_of) ∈ lw_tbl := wsL_in_r10 _ (List.mem_of_getElem? (i := 14) rfl)
theorem mw_10_13 : (Cond.methodLink RX6 27 yX6_of) ∈ lw_tbl := wsL_in_r10 _ (List.mem_of_getElem? (i := 13) rfl)
theorem mw_10_12 : (Cond.code yX6_isGuest cX6_isGuest 2 (some .boolean)) ∈ lw_tbl := wsL_in_r10 _ (List.mem_of_getElem? (i := 12) rfl)
theorem mw_10_11 : (Cond.selects RX6 yX6_isGuest yX6_isGuest) ∈ lw_tbl := wsL_in_r10 _ (List.mem_of_getElem? (i := 11) rfl)
theorem mw_10_10 : (Cond.instanceMethod yX6_isGuest) ∈ lw_tbl := wsL_in_r10 _ (List.mem_of_getElem? (i := 10) rfl)
theorem mw_10_9 : (Cond.methodLink RX6 78 yX6_isGuest) ∈ lw_tbl := wsL_in_r10 _ (List.mem_of_getElem? (i := 9) rfl)
theorem memT_wsX6_leave_r1 : ∀ w ∈ wsX6_leave_r1, w ∈ lw_tbl := by
  unfold wsX6_leave_r1
  exact (List.forall_mem_cons.mpr ⟨mw_4_9, (List.forall_mem_cons.mpr ⟨mw_10_9, (List.forall_mem_cons.mpr ⟨mw_10_10, (List.forall_mem_cons.mpr ⟨mw_10_11, (List.forall_mem_cons.mpr ⟨mw_1_5, (List.forall_mem_cons.mpr ⟨mw_10_12, (List.forall_mem_cons.mpr ⟨mw_7_1, (List.forall_mem_cons.mpr ⟨mw_7_2, (List.forall_mem_cons.mpr ⟨mw_7_3, (List.forall_mem_cons.mpr ⟨mw_10_13, (List.forall_mem_cons.mpr ⟨mw_10_14, (List.forall_mem_cons.mpr ⟨mw_10_15, (List.forall_mem_cons.mpr ⟨mw_10_16, (List.forall_mem_cons.mpr ⟨mw_10_17, (List.forall_mem_cons.mpr ⟨mw_10_18, (List.forall_mem_cons.mpr ⟨mw_10_19, (List.forall_mem_cons.mpr ⟨mw_10_20, (List.forall_mem_cons.mpr ⟨mw_10_21, (List.forall_mem_cons.mpr ⟨mw_10_22, (List.forall_mem_cons.mpr ⟨mw_10_23, (List.forall_mem_cons.mpr ⟨mw_11_0, (List.forall_mem_cons.mpr ⟨mw_11_1, (List.forall_mem_cons.mpr ⟨mw_11_2, (List.forall_mem_cons.mpr ⟨mw_11_3, (fun _ h => absurd h List.not_mem_nil)⟩)⟩)⟩)⟩)⟩)⟩)⟩)⟩)⟩)⟩)⟩)⟩)⟩)⟩)⟩)⟩)⟩)⟩)⟩)⟩)⟩)⟩)⟩)⟩)
theorem mw_11_8 : (Cond.code yX6_inLine cX6_inLine 3 (some .int)) ∈ lw_tbl := wsL_in_r11 _ (List.mem_of_getElem? (i := 8) rfl)
theorem mw_11_7 : (Cond.selects RX6 yX6_inLine yX6_inLine) ∈ lw_tbl := wsL_in_r11 _ (List.mem_of_getElem? (i := 7) rfl)
theorem mw_11_6 : (Cond.instanceMethod yX6_inLine) ∈ lw_tbl := wsL_in_r11 _ (List.mem_of_getElem? (i := 6) rfl)
theorem mw_11_5 : (Cond.methodLink RX6 43 yX6_inLine) ∈ lw_tbl := wsL_in_r11 _ (List.mem_of_getElem? (i := 5) rfl)
theorem mw_11_4 : (Cond.code yX6_lineLength cX6_lineLength 2 (some .int)) ∈ lw_tbl := wsL_in_r11 _ (List.mem_of_getElem? (i := 4) rfl)
theorem memT_wsX6_leave_r2 : ∀ w ∈ wsX6_leave_r2, w ∈ lw_tbl := by
  unfold wsX6_leave_r2
  exact (List.forall_mem_cons.mpr ⟨mw_11_4, (List.forall_mem_cons.mpr ⟨mw_11_5, (List.forall_mem_cons.mpr ⟨mw_11_6, (List.forall_mem_cons.mpr ⟨mw_11_7, (List.forall_mem_cons.mpr ⟨mw_11_8, (List.forall_mem_cons.mpr ⟨mw_7_4, (List.forall_mem_cons.mpr ⟨mw_7_5, (List.forall_mem_cons.mpr ⟨mw_7_6, (List.forall_mem_cons.mpr ⟨mw_7_7, (List.forall_mem_cons.mpr ⟨mw_7_8, (List.forall_mem_cons.mpr ⟨mw_7_9, (List.forall_mem_cons.mpr ⟨mw_7_10, (List.forall_mem_cons.mpr ⟨mw_7_11, (List.forall_mem_cons.mpr ⟨mw_7_12, (List.forall_mem_cons.mpr ⟨mw_7_13, (List.forall_mem_cons.mpr ⟨mw_7_14, (List.forall_mem_cons.mpr ⟨mw_7_15, (List.forall_mem_cons.mpr ⟨mw_7_16, (List.forall_mem_cons.mpr ⟨mw_7_17, (List.forall_mem_cons.mpr ⟨mw_7_18, (List.forall_mem_cons.mpr ⟨mw_7_19, (List.forall_mem_cons.mpr ⟨mw_7_20, (List.forall_mem_cons.mpr ⟨mw_7_21, (fun _ h => absurd h List.not_mem_nil)⟩)⟩)⟩)⟩)⟩)⟩)⟩)⟩)⟩)⟩)⟩)⟩)⟩)⟩)⟩)⟩)⟩)⟩)⟩)⟩)⟩)⟩)⟩)
theorem memT_wsX6_leave : ∀ w ∈ wsX6_leave, w ∈ lw_tbl := by
  unfold wsX6_leave
  exact (List.forall_mem_cons.mpr ⟨mw_10_8, (List.forall_mem_append.mpr ⟨(List.forall_mem_append.mpr ⟨memT_wsX6_leave_r1, memT_wsX6_leave_r2⟩), inX6⟩)⟩)
theorem mw_10_7 : (Cond.selects RX6 yX6_leave yX6_leave) ∈ lw_tbl := wsL_in_r10 _ (List.mem_of_getElem? (i := 7) rfl)
theorem mw_10_6 : (Cond.instanceMethod yX6_leave) ∈ lw_tbl := wsL_in_r10 _ (List.mem_of_getElem? (i := 6) rfl)
theorem mw_10_5 : (Cond.methodLink RL 108 yX6_leave) ∈ lw_tbl := wsL_in_r10 _ (List.mem_of_getElem? (i := 5) rfl)
set_option maxRecDepth 20000 in
theorem gT_X6_leave : GoodIn lw_tbl (wsV RL 108 RX6 yX6_leave wsX6_leave) := goodIn_sub (by
  unfold wsV
  exact List.forall_mem_append.mpr ⟨(List.forall_mem_cons.mpr ⟨mw_10_5, (List.forall_mem_cons.mpr ⟨mw_10_6, (List.forall_mem_cons.mpr ⟨mw_10_7, (List.forall_mem_cons.mpr ⟨mw_1_5, (fun _ h => absurd h List.not_mem_nil)⟩)⟩)⟩)⟩), memT_wsX6_leave⟩) (by decide +kernel)
theorem mw_11_11 : (Cond.codeWith yL_earn cL_earn 5 (some .int) [(0, 10, 13, 21), (0, 10, 17, 13)]) ∈ lw_tbl := wsL_in_r11 _ (List.mem_of_getElem? (i := 11) rfl)
theorem mw_11_15 : (Cond.code yX5_earn cX5_earn 3 (some .int)) ∈ lw_tbl := wsL_in_r11 _ (List.mem_of_getElem? (i := 15) rfl)
theorem mw_11_14 : (Cond.selects RX5 yX5_earn yX5_earn) ∈ lw_tbl := wsL_in_r11 _ (List.mem_of_getElem? (i := 14) rfl)
theorem mw_11_13 : (Cond.instanceMethod yX5_earn) ∈ lw_tbl := wsL_in_r11 _ (List.mem_of_getElem? (i := 13) rfl)
theorem mw_11_12 : (Cond.methodLink RL 23 yX5_earn) ∈ lw_tbl := wsL_in_r11 _ (List.mem_of_getElem? (i := 12) rfl)
theorem memT_wsL_earn_r1 : ∀ w ∈ wsL_earn_r1, w ∈ lw_tbl := by
  unfold wsL_earn_r1
  exact (List.forall_mem_cons.mpr ⟨mw_8_5, (List.forall_mem_cons.mpr ⟨mw_4_16, (List.forall_mem_cons.mpr ⟨mw_11_12, (List.forall_mem_cons.mpr ⟨mw_11_13, (List.forall_mem_cons.mpr ⟨mw_11_14, (List.forall_mem_cons.mpr ⟨mw_1_2, (List.forall_mem_cons.mpr ⟨mw_11_15, (List.forall_mem_cons.mpr ⟨mw_1_21, (List.forall_mem_cons.mpr ⟨mw_1_16, (List.forall_mem_cons.mpr ⟨mw_8_10, (List.forall_mem_cons.mpr ⟨mw_8_11, (List.forall_mem_cons.mpr ⟨mw_8_12, (List.forall_mem_cons.mpr ⟨mw_8_13, (List.forall_mem_cons.mpr ⟨mw_8_14, (List.forall_mem_cons.mpr ⟨mw_8_15, (List.forall_mem_cons.mpr ⟨mw_8_16, (List.forall_mem_cons.mpr ⟨mw_2_8, (List.forall_mem_cons.mpr ⟨mw_8_17, (List.forall_mem_cons.mpr ⟨mw_8_18, (List.forall_mem_cons.mpr ⟨mw_6_9, (List.forall_mem_cons.mpr ⟨mw_4_22, (List.forall_mem_cons.mpr ⟨mw_4_23, (List.forall_mem_cons.mpr ⟨mw_5_0, (List.forall_mem_cons.mpr ⟨mw_5_1, (fun _ h => absurd h List.not_mem_nil)⟩)⟩)⟩)⟩)⟩)⟩)⟩)⟩)⟩)⟩)⟩)⟩)⟩)⟩)⟩)⟩)⟩)⟩)⟩)⟩)⟩)⟩)⟩)⟩)
theorem memT_wsL_earn_r2 : ∀ w ∈ wsL_earn_r2, w ∈ lw_tbl := by
  unfold wsL_earn_r2
  exact (List.forall_mem_cons.mpr ⟨mw_5_2, (List.forall_mem_cons.mpr ⟨mw_5_3, (List.forall_mem_cons.mpr ⟨mw_5_4, (List.forall_mem_cons.mpr ⟨mw_5_5, (List.forall_mem_cons.mpr ⟨mw_5_11, (List.forall_mem_cons.mpr ⟨mw_1_20, (List.forall_mem_cons.mpr ⟨mw_5_12, (List.forall_mem_cons.mpr ⟨mw_5_13, (List.forall_mem_cons.mpr ⟨mw_5_14, (List.forall_mem_cons.mpr ⟨mw_5_15, (List.forall_mem_cons.mpr ⟨mw_5_16, (List.forall_mem_cons.mpr ⟨mw_5_17, (List.forall_mem_cons.mpr ⟨mw_5_18, (List.forall_mem_cons.mpr ⟨mw_5_19, (List.forall_mem_cons.mpr ⟨mw_4_0, (List.forall_mem_cons.mpr ⟨mw_5_20, (List.forall_mem_cons.mpr ⟨mw_1_15, (List.forall_mem_cons.mpr ⟨mw_5_21, (List.forall_mem_cons.mpr ⟨mw_5_22, (List.forall_mem_cons.mpr ⟨mw_2_9, (List.forall_mem_cons.mpr ⟨mw_2_13, (List.forall_mem_cons.mpr ⟨mw_2_15, (List.forall_mem_cons.mpr ⟨mw_5_23, (List.forall_mem_cons.mpr ⟨mw_6_0, (fun _ h => absurd h List.not_mem_nil)⟩)⟩)⟩)⟩)⟩)⟩)⟩)⟩)⟩)⟩)⟩)⟩)⟩)⟩)⟩)⟩)⟩)⟩)⟩)⟩)⟩)⟩)⟩)⟩)
theorem memT_wsL_earn_r3 : ∀ w ∈ wsL_earn_r3, w ∈ lw_tbl := by
  unfold wsL_earn_r3
  exact (List.forall_mem_cons.mpr ⟨mw_6_1, (List.forall_mem_cons.mpr ⟨mw_6_2, (List.forall_mem_cons.mpr ⟨mw_6_3, (List.forall_mem_cons.mpr ⟨mw_6_4, (List.forall_mem_cons.mpr ⟨mw_6_5, (List.forall_mem_cons.mpr ⟨mw_2_16, (List.forall_mem_cons.mpr ⟨mw_2_17, (List.forall_mem_cons.mpr ⟨mw_6_6, (List.forall_mem_cons.mpr ⟨mw_6_7, (List.forall_mem_cons.mpr ⟨mw_6_8, (List.forall_mem_cons.mpr ⟨mw_2_21, (List.forall_mem_cons.mpr ⟨mw_2_22, (List.forall_mem_cons.mpr ⟨mw_2_23, (List.forall_mem_cons.mpr ⟨mw_3_0, (List.forall_mem_cons.mpr ⟨mw_3_1, (List.forall_mem_cons.mpr ⟨mw_3_2, (List.forall_mem_cons.mpr ⟨mw_3_3, (List.forall_mem_cons.mpr ⟨mw_3_4, (List.forall_mem_cons.mpr ⟨mw_3_10, (List.forall_mem_cons.mpr ⟨mw_3_11, (List.forall_mem_cons.mpr ⟨mw_3_12, (List.forall_mem_cons.mpr ⟨mw_3_13, (List.forall_mem_cons.mpr ⟨mw_3_14, (List.forall_mem_cons.mpr ⟨mw_3_15, (fun _ h => absurd h List.not_mem_nil)⟩)⟩)⟩)⟩)⟩)⟩)⟩)⟩)⟩)⟩)⟩)⟩)⟩)⟩)⟩)⟩)⟩)⟩)⟩)⟩)⟩)⟩)⟩)⟩)
theorem mw_11_19 : (Cond.methodLink RX0 84 Lib.Math.min.name) ∈ lw_tbl := wsL_in_r11 _ (List.mem_of_getElem? (i := 19) rfl)
theorem mw_11_18 : (Cond.code yX0_giveWages cX0_giveWages 5 (some .int)) ∈ lw_tbl := wsL_in_r11 _ (List.mem_of_getElem? (i := 18) rfl)
theorem mw_11_17 : (Cond.selects RX0 yX0_giveWages yX0_giveWages) ∈ lw_tbl := wsL_in_r11 _ (List.mem_of_getElem? (i := 17) rfl)
theorem mw_11_16 : (Cond.instanceMethod yX0_giveWages) ∈ lw_tbl := wsL_in_r11 _ (List.mem_of_getElem? (i := 16) rfl)
theorem memT_wsL_earn_r4 : ∀ w ∈ wsL_earn_r4, w ∈ lw_tbl := by
  unfold wsL_earn_r4
  exact (List.forall_mem_cons.mpr ⟨mw_3_16, (List.forall_mem_cons.mpr ⟨mw_3_17, (List.forall_mem_cons.mpr ⟨mw_3_18, (List.forall_mem_cons.mpr ⟨mw_3_19, (List.forall_mem_cons.mpr ⟨mw_6_10, (List.forall_mem_cons.mpr ⟨mw_2_12, (List.forall_mem_cons.mpr ⟨mw_6_11, (List.forall_mem_cons.mpr ⟨mw_6_12, (List.forall_mem_cons.mpr ⟨mw_3_8, (List.forall_mem_cons.mpr ⟨mw_3_9, (List.forall_mem_cons.mpr ⟨mw_11_16, (List.forall_mem_cons.mpr ⟨mw_11_17, (List.forall_mem_cons.mpr ⟨mw_11_18, (List.forall_mem_cons.mpr ⟨mw_11_19, (List.forall_mem_cons.mpr ⟨mw_9_1, (List.forall_mem_cons.mpr ⟨mw_9_2, (List.forall_mem_cons.mpr ⟨mw_6_19, (List.forall_mem_cons.mpr ⟨mw_6_20, (fun _ h => absurd h List.not_mem_nil)⟩)⟩)⟩)⟩)⟩)⟩)⟩)⟩)⟩)⟩)⟩)⟩)⟩)⟩)⟩)⟩)⟩)⟩)
theorem memT_wsL_earn : ∀ w ∈ wsL_earn, w ∈ lw_tbl := by
  unfold wsL_earn
  exact (List.forall_mem_cons.mpr ⟨mw_11_11, (List.forall_mem_append.mpr ⟨(List.forall_mem_append.mpr ⟨(List.forall_mem_append.mpr ⟨(List.forall_mem_append.mpr ⟨(List.forall_mem_append.mpr ⟨(List.forall_mem_append.mpr ⟨(List.forall_mem_append.mpr ⟨(List.forall_mem_append.mpr ⟨memT_wsL_earn_r1, (List.forall_mem_append.mpr ⟨memT_wsL_earn_r2, (List.forall_mem_append.mpr ⟨memT_wsL_earn_r3, memT_wsL_earn_r4⟩)⟩)⟩), inX5⟩), inX0⟩), inX1⟩), inX2⟩), inX3⟩), wsL_law__x2⟩), wsL_law__x0⟩)⟩)
theorem mw_11_10 : (Cond.static yL_earn) ∈ lw_tbl := wsL_in_r11 _ (List.mem_of_getElem? (i := 10) rfl)
theorem mw_11_9 : (Cond.methodLink RL 109 yL_earn) ∈ lw_tbl := wsL_in_r11 _ (List.mem_of_getElem? (i := 9) rfl)
set_option maxRecDepth 20000 in
theorem gT_L_earn : GoodIn lw_tbl (va_wsS RL 109 yL_earn wsL_earn) := goodIn_sub (by
  unfold va_wsS
  exact List.forall_mem_append.mpr ⟨(List.forall_mem_cons.mpr ⟨mw_11_9, (List.forall_mem_cons.mpr ⟨mw_11_10, (List.forall_mem_cons.mpr ⟨mw_4_14, (fun _ h => absurd h List.not_mem_nil)⟩)⟩)⟩), memT_wsL_earn⟩) (by decide +kernel)
theorem mw_11_23 : (Cond.code yX6_earn cX6_earn 4 (some .int)) ∈ lw_tbl := wsL_in_r11 _ (List.mem_of_getElem? (i := 23) rfl)
theorem memT_wsX6_earn_r1 : ∀ w ∈ wsX6_earn_r1, w ∈ lw_tbl := by
  unfold wsX6_earn_r1
  exact (List.forall_mem_cons.mpr ⟨mw_4_9, (List.forall_mem_cons.mpr ⟨mw_10_9, (List.forall_mem_cons.mpr ⟨mw_10_10, (List.forall_mem_cons.mpr ⟨mw_10_11, (List.forall_mem_cons.mpr ⟨mw_1_5, (List.forall_mem_cons.mpr ⟨mw_10_12, (List.forall_mem_cons.mpr ⟨mw_7_1, (List.forall_mem_cons.mpr ⟨mw_7_2, (List.forall_mem_cons.mpr ⟨mw_7_3, (List.forall_mem_cons.mpr ⟨mw_7_4, (List.forall_mem_cons.mpr ⟨mw_7_5, (List.forall_mem_cons.mpr ⟨mw_7_6, (List.forall_mem_cons.mpr ⟨mw_7_7, (List.forall_mem_cons.mpr ⟨mw_7_8, (List.forall_mem_cons.mpr ⟨mw_7_9, (List.forall_mem_cons.mpr ⟨mw_7_10, (List.forall_mem_cons.mpr ⟨mw_7_11, (List.forall_mem_cons.mpr ⟨mw_7_12, (List.forall_mem_cons.mpr ⟨mw_7_13, (List.forall_mem_cons.mpr ⟨mw_7_14, (List.forall_mem_cons.mpr ⟨mw_7_15, (List.forall_mem_cons.mpr ⟨mw_7_16, (List.forall_mem_cons.mpr ⟨mw_7_17, (List.forall_mem_cons.mpr ⟨mw_10_13, (fun _ h => absurd h List.not_mem_nil)⟩)⟩)⟩)⟩)⟩)⟩)⟩)⟩)⟩)⟩)⟩)⟩)⟩)⟩)⟩)⟩)⟩)⟩)⟩)⟩)⟩)⟩)⟩)⟩)
theorem mw_12_2 : (Cond.code yX6_lesser cX6_lesser 2 (some .int)) ∈ lw_tbl := wsL_in_r12 _ (List.mem_of_getElem? (i := 2) rfl)
theorem mw_12_1 : (Cond.static yX6_lesser) ∈ lw_tbl := wsL_in_r12 _ (List.mem_of_getElem? (i := 1) rfl)
theorem mw_12_0 : (Cond.methodLink RX6 53 yX6_lesser) ∈ lw_tbl := wsL_in_r12 _ (List.mem_of_getElem? (i := 0) rfl)
theorem memT_wsX6_earn_r2 : ∀ w ∈ wsX6_earn_r2, w ∈ lw_tbl := by
  unfold wsX6_earn_r2
  exact (List.forall_mem_cons.mpr ⟨mw_10_14, (List.forall_mem_cons.mpr ⟨mw_10_15, (List.forall_mem_cons.mpr ⟨mw_10_16, (List.forall_mem_cons.mpr ⟨mw_12_0, (List.forall_mem_cons.mpr ⟨mw_12_1, (List.forall_mem_cons.mpr ⟨mw_12_2, (List.forall_mem_cons.mpr ⟨mw_7_18, (List.forall_mem_cons.mpr ⟨mw_7_19, (List.forall_mem_cons.mpr ⟨mw_7_20, (List.forall_mem_cons.mpr ⟨mw_7_21, (fun _ h => absurd h List.not_mem_nil)⟩)⟩)⟩)⟩)⟩)⟩)⟩)⟩)⟩)⟩)
theorem memT_wsX6_earn : ∀ w ∈ wsX6_earn, w ∈ lw_tbl := by
  unfold wsX6_earn
  exact (List.forall_mem_cons.mpr ⟨mw_11_23, (List.forall_mem_append.mpr ⟨(List.forall_mem_append.mpr ⟨memT_wsX6_earn_r1, memT_wsX6_earn_r2⟩), inX6⟩)⟩)
theorem mw_11_22 : (Cond.selects RX6 yX6_earn yX6_earn) ∈ lw_tbl := wsL_in_r11 _ (List.mem_of_getElem? (i := 22) rfl)
theorem mw_11_21 : (Cond.instanceMethod yX6_earn) ∈ lw_tbl := wsL_in_r11 _ (List.mem_of_getElem? (i := 21) rfl)
theorem mw_11_20 : (Cond.methodLink RL 112 yX6_earn) ∈ lw_tbl := wsL_in_r11 _ (List.mem_of_getElem? (i := 20) rfl)
set_option maxRecDepth 20000 in
theorem gT_X6_earn : GoodIn lw_tbl (wsV RL 112 RX6 yX6_earn wsX6_earn) := goodIn_sub (by
  unfold wsV
  exact List.forall_mem_append.mpr ⟨(List.forall_mem_cons.mpr ⟨mw_11_20, (List.forall_mem_cons.mpr ⟨mw_11_21, (List.forall_mem_cons.mpr ⟨mw_11_22, (List.forall_mem_cons.mpr ⟨mw_1_5, (fun _ h => absurd h List.not_mem_nil)⟩)⟩)⟩)⟩), memT_wsX6_earn⟩) (by decide +kernel)
theorem mw_12_5 : (Cond.codeWith yL_lend cL_lend 5 (some .int) [(0, 10, 13, 21), (0, 10, 17, 15)]) ∈ lw_tbl := wsL_in_r12 _ (List.mem_of_getElem? (i := 5) rfl)
theorem mw_12_12 : (Cond.code yX1_reasonNoLoan cX1_reasonNoLoan 3 (some .int)) ∈ lw_tbl := wsL_in_r12 _ (List.mem_of_getElem? (i := 12) rfl)
theorem mw_12_11 : (Cond.selects RX1 yX1_reasonNoLoan yX1_reasonNoLoan) ∈ lw_tbl := wsL_in_r12 _ (List.mem_of_getElem? (i := 11) rfl)
theorem mw_12_10 : (Cond.instanceMethod yX1_reasonNoLoan) ∈ lw_tbl := wsL_in_r12 _ (List.mem_of_getElem? (i := 10) rfl)
theorem mw_12_9 : (Cond.code yX5_lend cX5_lend 3 (some .int)) ∈ lw_tbl := wsL_in_r12 _ (List.mem_of_getElem? (i := 9) rfl)
theorem mw_12_8 : (Cond.selects RX5 yX5_lend yX5_lend) ∈ lw_tbl := wsL_in_r12 _ (List.mem_of_getElem? (i := 8) rfl)
theorem mw_12_7 : (Cond.instanceMethod yX5_lend) ∈ lw_tbl := wsL_in_r12 _ (List.mem_of_getElem? (i := 7) rfl)
theorem mw_12_6 : (Cond.methodLink RL 27 yX5_lend) ∈ lw_tbl := wsL_in_r12 _ (List.mem_of_getElem? (i := 6) rfl)
theorem memT_wsL_lend_r1 : ∀ w ∈ wsL_lend_r1, w ∈ lw_tbl := by
  unfold wsL_lend_r1
  exact (List.forall_mem_cons.mpr ⟨mw_8_5, (List.forall_mem_cons.mpr ⟨mw_4_17, (List.forall_mem_cons.mpr ⟨mw_12_6, (List.forall_mem_cons.mpr ⟨mw_12_7, (List.forall_mem_cons.mpr ⟨mw_12_8, (List.forall_mem_cons.mpr ⟨mw_1_2, (List.forall_mem_cons.mpr ⟨mw_12_9, (List.forall_mem_cons.mpr ⟨mw_1_16, (List.forall_mem_cons.mpr ⟨mw_1_21, (List.forall_mem_cons.mpr ⟨mw_8_10, (List.forall_mem_cons.mpr ⟨mw_8_11, (List.forall_mem_cons.mpr ⟨mw_8_12, (List.forall_mem_cons.mpr ⟨mw_8_13, (List.forall_mem_cons.mpr ⟨mw_8_14, (List.forall_mem_cons.mpr ⟨mw_8_15, (List.forall_mem_cons.mpr ⟨mw_8_16, (List.forall_mem_cons.mpr ⟨mw_2_8, (List.forall_mem_cons.mpr ⟨mw_8_17, (List.forall_mem_cons.mpr ⟨mw_8_18, (List.forall_mem_cons.mpr ⟨mw_6_9, (List.forall_mem_cons.mpr ⟨mw_12_10, (List.forall_mem_cons.mpr ⟨mw_12_11, (List.forall_mem_cons.mpr ⟨mw_12_12, (List.forall_mem_cons.mpr ⟨mw_3_1, (fun _ h => absurd h List.not_mem_nil)⟩)⟩)⟩)⟩)⟩)⟩)⟩)⟩)⟩)⟩)⟩)⟩)⟩)⟩)⟩)⟩)⟩)⟩)⟩)⟩)⟩)⟩)⟩)⟩)
theorem mw_12_14 : (Cond.methodLink RX1 60 yX1_isIn) ∈ lw_tbl := wsL_in_r12 _ (List.mem_of_getElem? (i := 14) rfl)
theorem mw_12_13 : (Cond.methodLink RX1 56 yX1_wornCoat) ∈ lw_tbl := wsL_in_r12 _ (List.mem_of_getElem? (i := 13) rfl)
theorem memT_wsL_lend_r2 : ∀ w ∈ wsL_lend_r2, w ∈ lw_tbl := by
  unfold wsL_lend_r2
  exact (List.forall_mem_cons.mpr ⟨mw_12_13, (List.forall_mem_cons.mpr ⟨mw_8_22, (List.forall_mem_cons.mpr ⟨mw_8_23, (List.forall_mem_cons.mpr ⟨mw_9_0, (List.forall_mem_cons.mpr ⟨mw_3_2, (List.forall_mem_cons.mpr ⟨mw_9_1, (List.forall_mem_cons.mpr ⟨mw_9_2, (List.forall_mem_cons.mpr ⟨mw_12_14, (List.forall_mem_cons.mpr ⟨mw_9_3, (List.forall_mem_cons.mpr ⟨mw_9_4, (List.forall_mem_cons.mpr ⟨mw_9_5, (List.forall_mem_cons.mpr ⟨mw_3_4, (List.forall_mem_cons.mpr ⟨mw_5_6, (List.forall_mem_cons.mpr ⟨mw_5_7, (List.forall_mem_cons.mpr ⟨mw_5_8, (List.forall_mem_cons.mpr ⟨mw_5_9, (List.forall_mem_cons.mpr ⟨mw_5_10, (List.forall_mem_cons.mpr ⟨mw_5_11, (List.forall_mem_cons.mpr ⟨mw_1_20, (List.forall_mem_cons.mpr ⟨mw_5_12, (List.forall_mem_cons.mpr ⟨mw_5_13, (List.forall_mem_cons.mpr ⟨mw_5_14, (List.forall_mem_cons.mpr ⟨mw_5_15, (List.forall_mem_cons.mpr ⟨mw_5_16, (fun _ h => absurd h List.not_mem_nil)⟩)⟩)⟩)⟩)⟩)⟩)⟩)⟩)⟩)⟩)⟩)⟩)⟩)⟩)⟩)⟩)⟩)⟩)⟩)⟩)⟩)⟩)⟩)⟩)
theorem memT_wsL_lend_r3 : ∀ w ∈ wsL_lend_r3, w ∈ lw_tbl := by
  unfold wsL_lend_r3
  exact (List.forall_mem_cons.mpr ⟨mw_5_17, (List.forall_mem_cons.mpr ⟨mw_5_18, (List.forall_mem_cons.mpr ⟨mw_5_19, (List.forall_mem_cons.mpr ⟨mw_4_0, (List.forall_mem_cons.mpr ⟨mw_5_20, (List.forall_mem_cons.mpr ⟨mw_1_15, (List.forall_mem_cons.mpr ⟨mw_5_21, (List.forall_mem_cons.mpr ⟨mw_5_22, (List.forall_mem_cons.mpr ⟨mw_2_9, (List.forall_mem_cons.mpr ⟨mw_2_13, (List.forall_mem_cons.mpr ⟨mw_2_15, (List.forall_mem_cons.mpr ⟨mw_5_23, (List.forall_mem_cons.mpr ⟨mw_6_0, (List.forall_mem_cons.mpr ⟨mw_6_1, (List.forall_mem_cons.mpr ⟨mw_6_2, (List.forall_mem_cons.mpr ⟨mw_6_3, (List.forall_mem_cons.mpr ⟨mw_6_4, (List.forall_mem_cons.mpr ⟨mw_6_5, (List.forall_mem_cons.mpr ⟨mw_2_16, (List.forall_mem_cons.mpr ⟨mw_2_17, (List.forall_mem_cons.mpr ⟨mw_6_6, (List.forall_mem_cons.mpr ⟨mw_6_7, (List.forall_mem_cons.mpr ⟨mw_6_8, (List.forall_mem_cons.mpr ⟨mw_2_21, (fun _ h => absurd h List.not_mem_nil)⟩)⟩)⟩)⟩)⟩)⟩)⟩)⟩)⟩)⟩)⟩)⟩)⟩)⟩)⟩)⟩)⟩)⟩)⟩)⟩)⟩)⟩)⟩)⟩)
theorem mw_12_17 : (Cond.code yX1_lendCoat cX1_lendCoat 3 none) ∈ lw_tbl := wsL_in_r12 _ (List.mem_of_getElem? (i := 17) rfl)
theorem mw_12_16 : (Cond.selects RX1 yX1_lendCoat yX1_lendCoat) ∈ lw_tbl := wsL_in_r12 _ (List.mem_of_getElem? (i := 16) rfl)
theorem mw_12_15 : (Cond.instanceMethod yX1_lendCoat) ∈ lw_tbl := wsL_in_r12 _ (List.mem_of_getElem? (i := 15) rfl)
theorem memT_wsL_lend_r4 : ∀ w ∈ wsL_lend_r4, w ∈ lw_tbl := by
  unfold wsL_lend_r4
  exact (List.forall_mem_cons.mpr ⟨mw_2_22, (List.forall_mem_cons.mpr ⟨mw_2_23, (List.forall_mem_cons.mpr ⟨mw_3_0, (List.forall_mem_cons.mpr ⟨mw_3_3, (List.forall_mem_cons.mpr ⟨mw_3_10, (List.forall_mem_cons.mpr ⟨mw_3_11, (List.forall_mem_cons.mpr ⟨mw_3_12, (List.forall_mem_cons.mpr ⟨mw_3_13, (List.forall_mem_cons.mpr ⟨mw_3_14, (List.forall_mem_cons.mpr ⟨mw_3_15, (List.forall_mem_cons.mpr ⟨mw_3_16, (List.forall_mem_cons.mpr ⟨mw_3_17, (List.forall_mem_cons.mpr ⟨mw_3_18, (List.forall_mem_cons.mpr ⟨mw_3_19, (List.forall_mem_cons.mpr ⟨mw_6_10, (List.forall_mem_cons.mpr ⟨mw_2_12, (List.forall_mem_cons.mpr ⟨mw_6_11, (List.forall_mem_cons.mpr ⟨mw_6_12, (List.forall_mem_cons.mpr ⟨mw_3_8, (List.forall_mem_cons.mpr ⟨mw_3_9, (List.forall_mem_cons.mpr ⟨mw_12_15, (List.forall_mem_cons.mpr ⟨mw_12_16, (List.forall_mem_cons.mpr ⟨mw_12_17, (List.forall_mem_cons.mpr ⟨mw_6_19, (fun _ h => absurd h List.not_mem_nil)⟩)⟩)⟩)⟩)⟩)⟩)⟩)⟩)⟩)⟩)⟩)⟩)⟩)⟩)⟩)⟩)⟩)⟩)⟩)⟩)⟩)⟩)⟩)⟩)
theorem mw_12_18 : (Cond.methodLink RX5 93 yX5_at) ∈ lw_tbl := wsL_in_r12 _ (List.mem_of_getElem? (i := 18) rfl)
theorem memT_wsL_lend_r5 : ∀ w ∈ wsL_lend_r5, w ∈ lw_tbl := by
  unfold wsL_lend_r5
  exact (List.forall_mem_cons.mpr ⟨mw_6_20, (List.forall_mem_cons.mpr ⟨mw_12_18, (fun _ h => absurd h List.not_mem_nil)⟩)⟩)
theorem memT_wsL_lend : ∀ w ∈ wsL_lend, w ∈ lw_tbl := by
  unfold wsL_lend
  exact (List.forall_mem_cons.mpr ⟨mw_12_5, (List.forall_mem_append.mpr ⟨(List.forall_mem_append.mpr ⟨(List.forall_mem_append.mpr ⟨(List.forall_mem_append.mpr ⟨(List.forall_mem_append.mpr ⟨(List.forall_mem_append.mpr ⟨(List.forall_mem_append.mpr ⟨(List.forall_mem_append.mpr ⟨memT_wsL_lend_r1, (List.forall_mem_append.mpr ⟨memT_wsL_lend_r2, (List.forall_mem_append.mpr ⟨memT_wsL_lend_r3, (List.forall_mem_append.mpr ⟨memT_wsL_lend_r4, memT_wsL_lend_r5⟩)⟩)⟩)⟩), inX5⟩), inX0⟩), inX1⟩), inX2⟩), inX3⟩), wsL_law__x2⟩), wsL_law__x1⟩)⟩)
theorem mw_12_4 : (Cond.static yL_lend) ∈ lw_tbl := wsL_in_r12 _ (List.mem_of_getElem? (i := 4) rfl)
theorem mw_12_3 : (Cond.methodLink RL 113 yL_lend) ∈ lw_tbl := wsL_in_r12 _ (List.mem_of_getElem? (i := 3) rfl)
set_option maxRecDepth 20000 in
theorem gT_L_lend : GoodIn lw_tbl (va_wsS RL 113 yL_lend wsL_lend) := goodIn_sub (by
  unfold va_wsS
  exact List.forall_mem_append.mpr ⟨(List.forall_mem_cons.mpr ⟨mw_12_3, (List.forall_mem_cons.mpr ⟨mw_12_4, (List.forall_mem_cons.mpr ⟨mw_4_14, (fun _ h => absurd h List.not_mem_nil)⟩)⟩)⟩), memT_wsL_lend⟩) (by decide +kernel)
theorem mw_12_22 : (Cond.code yX6_lend cX6_lend 4 (some .int)) ∈ lw_tbl := wsL_in_r12 _ (List.mem_of_getElem? (i := 22) rfl)
theorem mw_13_6 : (Cond.code yX6_isBorrowed cX6_isBorrowed 2 (some .boolean)) ∈ lw_tbl := wsL_in_r13 _ (List.mem_of_getElem? (i := 6) rfl)
theorem mw_13_5 : (Cond.selects RX6 yX6_isBorrowed yX6_isBorrowed) ∈ lw_tbl := wsL_in_r13 _ (List.mem_of_getElem? (i := 5) rfl)
theorem mw_13_4 : (Cond.instanceMethod yX6_isBorrowed) ∈ lw_tbl := wsL_in_r13 _ (List.mem_of_getElem? (i := 4) rfl)
theorem mw_13_3 : (Cond.methodLink RX6 31 yX6_isBorrowed) ∈ lw_tbl := wsL_in_r13 _ (List.mem_of_getElem? (i := 3) rfl)
theorem mw_13_2 : (Cond.code yX6_whyNoLoan cX6_whyNoLoan 3 (some .int)) ∈ lw_tbl := wsL_in_r13 _ (List.mem_of_getElem? (i := 2) rfl)
theorem mw_13_1 : (Cond.selects RX6 yX6_whyNoLoan yX6_whyNoLoan) ∈ lw_tbl := wsL_in_r13 _ (List.mem_of_getElem? (i := 1) rfl)
theorem mw_13_0 : (Cond.instanceMethod yX6_whyNoLoan) ∈ lw_tbl := wsL_in_r13 _ (List.mem_of_getElem? (i := 0) rfl)
theorem mw_12_23 : (Cond.methodLink RX6 84 yX6_whyNoLoan) ∈ lw_tbl := wsL_in_r12 _ (List.mem_of_getElem? (i := 23) rfl)
theorem memT_wsX6_lend_r1 : ∀ w ∈ wsX6_lend_r1, w ∈ lw_tbl := by
  unfold wsX6_lend_r1
  exact (List.forall_mem_cons.mpr ⟨mw_10_9, (List.forall_mem_cons.mpr ⟨mw_10_10, (List.forall_mem_cons.mpr ⟨mw_10_11, (List.forall_mem_cons.mpr ⟨mw_1_5, (List.forall_mem_cons.mpr ⟨mw_10_12, (List.forall_mem_cons.mpr ⟨mw_4_9, (List.forall_mem_cons.mpr ⟨mw_7_1, (List.forall_mem_cons.mpr ⟨mw_7_2, (List.forall_mem_cons.mpr ⟨mw_7_3, (List.forall_mem_cons.mpr ⟨mw_12_23, (List.forall_mem_cons.mpr ⟨mw_13_0, (List.forall_mem_cons.mpr ⟨mw_13_1, (List.forall_mem_cons.mpr ⟨mw_13_2, (List.forall_mem_cons.mpr ⟨mw_10_13, (List.forall_mem_cons.mpr ⟨mw_10_14, (List.forall_mem_cons.mpr ⟨mw_10_15, (List.forall_mem_cons.mpr ⟨mw_10_16, (List.forall_mem_cons.mpr ⟨mw_13_3, (List.forall_mem_cons.mpr ⟨mw_13_4, (List.forall_mem_cons.mpr ⟨mw_13_5, (List.forall_mem_cons.mpr ⟨mw_13_6, (List.forall_mem_cons.mpr ⟨mw_7_4, (List.forall_mem_cons.mpr ⟨mw_7_5, (List.forall_mem_cons.mpr ⟨mw_7_6, (fun _ h => absurd h List.not_mem_nil)⟩)⟩)⟩)⟩)⟩)⟩)⟩)⟩)⟩)⟩)⟩)⟩)⟩)⟩)⟩)⟩)⟩)⟩)⟩)⟩)⟩)⟩)⟩)⟩)
theorem mw_13_10 : (Cond.code yX6_lends cX6_lends 3 (some .int)) ∈ lw_tbl := wsL_in_r13 _ (List.mem_of_getElem? (i := 10) rfl)
theorem mw_13_9 : (Cond.selects RX6 yX6_lends yX6_lends) ∈ lw_tbl := wsL_in_r13 _ (List.mem_of_getElem? (i := 9) rfl)
theorem mw_13_8 : (Cond.instanceMethod yX6_lends) ∈ lw_tbl := wsL_in_r13 _ (List.mem_of_getElem? (i := 8) rfl)
theorem mw_13_7 : (Cond.methodLink RX6 87 yX6_lends) ∈ lw_tbl := wsL_in_r13 _ (List.mem_of_getElem? (i := 7) rfl)
theorem memT_wsX6_lend_r2 : ∀ w ∈ wsX6_lend_r2, w ∈ lw_tbl := by
  unfold wsX6_lend_r2
  exact (List.forall_mem_cons.mpr ⟨mw_7_7, (List.forall_mem_cons.mpr ⟨mw_7_8, (List.forall_mem_cons.mpr ⟨mw_7_9, (List.forall_mem_cons.mpr ⟨mw_7_10, (List.forall_mem_cons.mpr ⟨mw_7_11, (List.forall_mem_cons.mpr ⟨mw_7_12, (List.forall_mem_cons.mpr ⟨mw_7_13, (List.forall_mem_cons.mpr ⟨mw_7_14, (List.forall_mem_cons.mpr ⟨mw_7_15, (List.forall_mem_cons.mpr ⟨mw_7_16, (List.forall_mem_cons.mpr ⟨mw_7_17, (List.forall_mem_cons.mpr ⟨mw_13_7, (List.forall_mem_cons.mpr ⟨mw_13_8, (List.forall_mem_cons.mpr ⟨mw_13_9, (List.forall_mem_cons.mpr ⟨mw_13_10, (List.forall_mem_cons.mpr ⟨mw_7_18, (List.forall_mem_cons.mpr ⟨mw_7_19, (List.forall_mem_cons.mpr ⟨mw_7_20, (List.forall_mem_cons.mpr ⟨mw_7_21, (fun _ h => absurd h List.not_mem_nil)⟩)⟩)⟩)⟩)⟩)⟩)⟩)⟩)⟩)⟩)⟩)⟩)⟩)⟩)⟩)⟩)⟩)⟩)⟩)
theorem memT_wsX6_lend : ∀ w ∈ wsX6_lend, w ∈ lw_tbl := by
  unfold wsX6_lend
  exact (List.forall_mem_cons.mpr ⟨mw_12_22, (List.forall_mem_append.mpr ⟨(List.forall_mem_append.mpr ⟨memT_wsX6_lend_r1, memT_wsX6_lend_r2⟩), inX6⟩)⟩)
theorem mw_12_21 : (Cond.selects RX6 yX6_lend yX6_lend) ∈ lw_tbl := wsL_in_r12 _ (List.mem_of_getElem? (i := 21) rfl)
theorem mw_12_20 : (Cond.instanceMethod yX6_lend) ∈ lw_tbl := wsL_in_r12 _ (List.mem_of_getElem? (i := 20) rfl)
theorem mw_12_19 : (Cond.methodLink RL 115 yX6_lend) ∈ lw_tbl := wsL_in_r12 _ (List.mem_of_getElem? (i := 19) rfl)
set_option maxRecDepth 20000 in
theorem gT_X6_lend : GoodIn lw_tbl (wsV RL 115 RX6 yX6_lend wsX6_lend) := goodIn_sub (by
  unfold wsV
  exact List.forall_mem_append.mpr ⟨(List.forall_mem_cons.mpr ⟨mw_12_19, (List.forall_mem_cons.mpr ⟨mw_12_20, (List.forall_mem_cons.mpr ⟨mw_12_21, (List.forall_mem_cons.mpr ⟨mw_1_5, (fun _ h => absurd h List.not_mem_nil)⟩)⟩)⟩)⟩), memT_wsX6_lend⟩) (by decide +kernel)
theorem mw_13_13 : (Cond.codeWith yL_giveBack cL_giveBack 4 (some .int) [(0, 9, 12, 21), (0, 9, 15, 15)]) ∈ lw_tbl := wsL_in_r13 _ (List.mem_of_getElem? (i := 13) rfl)
theorem mw_13_20 : (Cond.code yX1_canReturnCoat cX1_canReturnCoat 3 (some .boolean)) ∈ lw_tbl := wsL_in_r13 _ (List.mem_of_getElem? (i := 20) rfl)
theorem mw_13_19 : (Cond.selects RX1 yX1_canReturnCoat yX1_canReturnCoat) ∈ lw_tbl := wsL_in_r13 _ (List.mem_of_getElem? (i := 19) rfl)
theorem mw_13_18 : (Cond.instanceMethod yX1_canReturnCoat) ∈ lw_tbl := wsL_in_r13 _ (List.mem_of_getElem? (i := 18) rfl)
theorem mw_13_17 : (Cond.code yX5_giveBack cX5_giveBack 2 (some .int)) ∈ lw_tbl := wsL_in_r13 _ (List.mem_of_getElem? (i := 17) rfl)
theorem mw_13_16 : (Cond.selects RX5 yX5_giveBack yX5_giveBack) ∈ lw_tbl := wsL_in_r13 _ (List.mem_of_getElem? (i := 16) rfl)
theorem mw_13_15 : (Cond.instanceMethod yX5_giveBack) ∈ lw_tbl := wsL_in_r13 _ (List.mem_of_getElem? (i := 15) rfl)
theorem mw_13_14 : (Cond.methodLink RL 30 yX5_giveBack) ∈ lw_tbl := wsL_in_r13 _ (List.mem_of_getElem? (i := 14) rfl)
theorem memT_wsL_giveBack_r1 : ∀ w ∈ wsL_giveBack_r1, w ∈ lw_tbl := by
  unfold wsL_giveBack_r1
  exact (List.forall_mem_cons.mpr ⟨mw_8_5, (List.forall_mem_cons.mpr ⟨mw_4_17, (List.forall_mem_cons.mpr ⟨mw_13_14, (List.forall_mem_cons.mpr ⟨mw_13_15, (List.forall_mem_cons.mpr ⟨mw_13_16, (List.forall_mem_cons.mpr ⟨mw_1_2, (List.forall_mem_cons.mpr ⟨mw_13_17, (List.forall_mem_cons.mpr ⟨mw_1_16, (List.forall_mem_cons.mpr ⟨mw_1_21, (List.forall_mem_cons.mpr ⟨mw_8_10, (List.forall_mem_cons.mpr ⟨mw_8_11, (List.forall_mem_cons.mpr ⟨mw_8_12, (List.forall_mem_cons.mpr ⟨mw_8_13, (List.forall_mem_cons.mpr ⟨mw_8_14, (List.forall_mem_cons.mpr ⟨mw_8_15, (List.forall_mem_cons.mpr ⟨mw_8_16, (List.forall_mem_cons.mpr ⟨mw_2_8, (List.forall_mem_cons.mpr ⟨mw_8_17, (List.forall_mem_cons.mpr ⟨mw_8_18, (List.forall_mem_cons.mpr ⟨mw_6_9, (List.forall_mem_cons.mpr ⟨mw_13_18, (List.forall_mem_cons.mpr ⟨mw_13_19, (List.forall_mem_cons.mpr ⟨mw_13_20, (List.forall_mem_cons.mpr ⟨mw_3_1, (fun _ h => absurd h List.not_mem_nil)⟩)⟩)⟩)⟩)⟩)⟩)⟩)⟩)⟩)⟩)⟩)⟩)⟩)⟩)⟩)⟩)⟩)⟩)⟩)⟩)⟩)⟩)⟩)⟩)
theorem memT_wsL_giveBack_r2 : ∀ w ∈ wsL_giveBack_r2, w ∈ lw_tbl := by
  unfold wsL_giveBack_r2
  exact (List.forall_mem_cons.mpr ⟨mw_9_1, (List.forall_mem_cons.mpr ⟨mw_9_2, (List.forall_mem_cons.mpr ⟨mw_12_14, (List.forall_mem_cons.mpr ⟨mw_9_3, (List.forall_mem_cons.mpr ⟨mw_9_4, (List.forall_mem_cons.mpr ⟨mw_9_5, (List.forall_mem_cons.mpr ⟨mw_3_4, (List.forall_mem_cons.mpr ⟨mw_5_6, (List.forall_mem_cons.mpr ⟨mw_5_7, (List.forall_mem_cons.mpr ⟨mw_5_8, (List.forall_mem_cons.mpr ⟨mw_5_9, (List.forall_mem_cons.mpr ⟨mw_5_10, (List.forall_mem_cons.mpr ⟨mw_5_11, (List.forall_mem_cons.mpr ⟨mw_1_20, (List.forall_mem_cons.mpr ⟨mw_5_12, (List.forall_mem_cons.mpr ⟨mw_5_13, (List.forall_mem_cons.mpr ⟨mw_5_14, (List.forall_mem_cons.mpr ⟨mw_5_15, (List.forall_mem_cons.mpr ⟨mw_5_16, (List.forall_mem_cons.mpr ⟨mw_5_17, (List.forall_mem_cons.mpr ⟨mw_5_18, (List.forall_mem_cons.mpr ⟨mw_5_19, (List.forall_mem_cons.mpr ⟨mw_4_0, (List.forall_mem_cons.mpr ⟨mw_5_20, (fun _ h => absurd h List.not_mem_nil)⟩)⟩)⟩)⟩)⟩)⟩)⟩)⟩)⟩)⟩)⟩)⟩)⟩)⟩)⟩)⟩)⟩)⟩)⟩)⟩)⟩)⟩)⟩)⟩)
theorem memT_wsL_giveBack_r3 : ∀ w ∈ wsL_giveBack_r3, w ∈ lw_tbl := by
  unfold wsL_giveBack_r3
  exact (List.forall_mem_cons.mpr ⟨mw_1_15, (List.forall_mem_cons.mpr ⟨mw_5_21, (List.forall_mem_cons.mpr ⟨mw_5_22, (List.forall_mem_cons.mpr ⟨mw_2_9, (List.forall_mem_cons.mpr ⟨mw_2_13, (List.forall_mem_cons.mpr ⟨mw_2_15, (List.forall_mem_cons.mpr ⟨mw_5_23, (List.forall_mem_cons.mpr ⟨mw_6_0, (List.forall_mem_cons.mpr ⟨mw_6_1, (List.forall_mem_cons.mpr ⟨mw_6_2, (List.forall_mem_cons.mpr ⟨mw_6_3, (List.forall_mem_cons.mpr ⟨mw_6_4, (List.forall_mem_cons.mpr ⟨mw_6_5, (List.forall_mem_cons.mpr ⟨mw_2_16, (List.forall_mem_cons.mpr ⟨mw_2_17, (List.forall_mem_cons.mpr ⟨mw_6_6, (List.forall_mem_cons.mpr ⟨mw_6_7, (List.forall_mem_cons.mpr ⟨mw_6_8, (List.forall_mem_cons.mpr ⟨mw_2_21, (List.forall_mem_cons.mpr ⟨mw_2_22, (List.forall_mem_cons.mpr ⟨mw_2_23, (List.forall_mem_cons.mpr ⟨mw_3_0, (List.forall_mem_cons.mpr ⟨mw_3_2, (List.forall_mem_cons.mpr ⟨mw_3_3, (fun _ h => absurd h List.not_mem_nil)⟩)⟩)⟩)⟩)⟩)⟩)⟩)⟩)⟩)⟩)⟩)⟩)⟩)⟩)⟩)⟩)⟩)⟩)⟩)⟩)⟩)⟩)⟩)⟩)
theorem mw_13_23 : (Cond.code yX1_returnCoat cX1_returnCoat 3 (some .int)) ∈ lw_tbl := wsL_in_r13 _ (List.mem_of_getElem? (i := 23) rfl)
theorem mw_13_22 : (Cond.selects RX1 yX1_returnCoat yX1_returnCoat) ∈ lw_tbl := wsL_in_r13 _ (List.mem_of_getElem? (i := 22) rfl)
theorem mw_13_21 : (Cond.instanceMethod yX1_returnCoat) ∈ lw_tbl := wsL_in_r13 _ (List.mem_of_getElem? (i := 21) rfl)
theorem memT_wsL_giveBack_r4 : ∀ w ∈ wsL_giveBack_r4, w ∈ lw_tbl := by
  unfold wsL_giveBack_r4
  exact (List.forall_mem_cons.mpr ⟨mw_3_10, (List.forall_mem_cons.mpr ⟨mw_3_11, (List.forall_mem_cons.mpr ⟨mw_3_12, (List.forall_mem_cons.mpr ⟨mw_3_13, (List.forall_mem_cons.mpr ⟨mw_3_14, (List.forall_mem_cons.mpr ⟨mw_3_15, (List.forall_mem_cons.mpr ⟨mw_3_16, (List.forall_mem_cons.mpr ⟨mw_3_17, (List.forall_mem_cons.mpr ⟨mw_3_18, (List.forall_mem_cons.mpr ⟨mw_3_19, (List.forall_mem_cons.mpr ⟨mw_6_10, (List.forall_mem_cons.mpr ⟨mw_2_12, (List.forall_mem_cons.mpr ⟨mw_6_11, (List.forall_mem_cons.mpr ⟨mw_6_12, (List.forall_mem_cons.mpr ⟨mw_3_8, (List.forall_mem_cons.mpr ⟨mw_3_9, (List.forall_mem_cons.mpr ⟨mw_13_21, (List.forall_mem_cons.mpr ⟨mw_13_22, (List.forall_mem_cons.mpr ⟨mw_13_23, (List.forall_mem_cons.mpr ⟨mw_6_19, (List.forall_mem_cons.mpr ⟨mw_6_20, (fun _ h => absurd h List.not_mem_nil)⟩)⟩)⟩)⟩)⟩)⟩)⟩)⟩)⟩)⟩)⟩)⟩)⟩)⟩)⟩)⟩)⟩)⟩)⟩)⟩)⟩)
theorem memT_wsL_giveBack : ∀ w ∈ wsL_giveBack, w ∈ lw_tbl := by
  unfold wsL_giveBack
  exact (List.forall_mem_cons.mpr ⟨mw_13_13, (List.forall_mem_append.mpr ⟨(List.forall_mem_append.mpr ⟨(List.forall_mem_append.mpr ⟨(List.forall_mem_append.mpr ⟨(List.forall_mem_append.mpr ⟨(List.forall_mem_append.mpr ⟨(List.forall_mem_append.mpr ⟨(List.forall_mem_append.mpr ⟨memT_wsL_giveBack_r1, (List.forall_mem_append.mpr ⟨memT_wsL_giveBack_r2, (List.forall_mem_append.mpr ⟨memT_wsL_giveBack_r3, memT_wsL_giveBack_r4⟩)⟩)⟩), inX5⟩), inX0⟩), inX1⟩), inX2⟩), inX3⟩), wsL_law__x2⟩), wsL_law__x1⟩)⟩)
theorem mw_13_12 : (Cond.static yL_giveBack) ∈ lw_tbl := wsL_in_r13 _ (List.mem_of_getElem? (i := 12) rfl)
theorem mw_13_11 : (Cond.methodLink RL 116 yL_giveBack) ∈ lw_tbl := wsL_in_r13 _ (List.mem_of_getElem? (i := 11) rfl)
set_option maxRecDepth 20000 in
theorem gT_L_giveBack : GoodIn lw_tbl (va_wsS RL 116 yL_giveBack wsL_giveBack) := goodIn_sub (by
  unfold va_wsS
  exact List.forall_mem_append.mpr ⟨(List.forall_mem_cons.mpr ⟨mw_13_11, (List.forall_mem_cons.mpr ⟨mw_13_12, (List.forall_mem_cons.mpr ⟨mw_4_14, (fun _ h => absurd h List.not_mem_nil)⟩)⟩)⟩), memT_wsL_giveBack⟩) (by decide +kernel)
theorem mw_14_3 : (Cond.code yX6_giveBack cX6_giveBack 4 (some .int)) ∈ lw_tbl := wsL_in_r14 _ (List.mem_of_getElem? (i := 3) rfl)
theorem mw_14_7 : (Cond.code yX6_canGiveBack cX6_canGiveBack 2 (some .boolean)) ∈ lw_tbl := wsL_in_r14 _ (List.mem_of_getElem? (i := 7) rfl)
theorem mw_14_6 : (Cond.selects RX6 yX6_canGiveBack yX6_canGiveBack) ∈ lw_tbl := wsL_in_r14 _ (List.mem_of_getElem? (i := 6) rfl)
theorem mw_14_5 : (Cond.instanceMethod yX6_canGiveBack) ∈ lw_tbl := wsL_in_r14 _ (List.mem_of_getElem? (i := 5) rfl)
theorem mw_14_4 : (Cond.methodLink RX6 90 yX6_canGiveBack) ∈ lw_tbl := wsL_in_r14 _ (List.mem_of_getElem? (i := 4) rfl)
theorem memT_wsX6_giveBack_r1 : ∀ w ∈ wsX6_giveBack_r1, w ∈ lw_tbl := by
  unfold wsX6_giveBack_r1
  exact (List.forall_mem_cons.mpr ⟨mw_10_9, (List.forall_mem_cons.mpr ⟨mw_10_10, (List.forall_mem_cons.mpr ⟨mw_10_11, (List.forall_mem_cons.mpr ⟨mw_1_5, (List.forall_mem_cons.mpr ⟨mw_10_12, (List.forall_mem_cons.mpr ⟨mw_4_9, (List.forall_mem_cons.mpr ⟨mw_7_1, (List.forall_mem_cons.mpr ⟨mw_7_2, (List.forall_mem_cons.mpr ⟨mw_7_3, (List.forall_mem_cons.mpr ⟨mw_14_4, (List.forall_mem_cons.mpr ⟨mw_14_5, (List.forall_mem_cons.mpr ⟨mw_14_6, (List.forall_mem_cons.mpr ⟨mw_14_7, (List.forall_mem_cons.mpr ⟨mw_13_3, (List.forall_mem_cons.mpr ⟨mw_13_4, (List.forall_mem_cons.mpr ⟨mw_13_5, (List.forall_mem_cons.mpr ⟨mw_13_6, (List.forall_mem_cons.mpr ⟨mw_10_13, (List.forall_mem_cons.mpr ⟨mw_10_14, (List.forall_mem_cons.mpr ⟨mw_10_15, (List.forall_mem_cons.mpr ⟨mw_10_16, (List.forall_mem_cons.mpr ⟨mw_7_4, (List.forall_mem_cons.mpr ⟨mw_7_5, (List.forall_mem_cons.mpr ⟨mw_7_6, (fun _ h => absurd h List.not_mem_nil)⟩)⟩)⟩)⟩)⟩)⟩)⟩)⟩)⟩)⟩)⟩)⟩)⟩)⟩)⟩)⟩)⟩)⟩)⟩)⟩)⟩)⟩)⟩)⟩)
theorem memT_wsX6_giveBack_r2 : ∀ w ∈ wsX6_giveBack_r2, w ∈ lw_tbl := by
  unfold wsX6_giveBack_r2
  exact (List.forall_mem_cons.mpr ⟨mw_7_7, (List.forall_mem_cons.mpr ⟨mw_7_8, (List.forall_mem_cons.mpr ⟨mw_7_9, (List.forall_mem_cons.mpr ⟨mw_7_10, (List.forall_mem_cons.mpr ⟨mw_7_11, (List.forall_mem_cons.mpr ⟨mw_7_12, (List.forall_mem_cons.mpr ⟨mw_7_13, (List.forall_mem_cons.mpr ⟨mw_7_14, (List.forall_mem_cons.mpr ⟨mw_7_15, (List.forall_mem_cons.mpr ⟨mw_7_16, (List.forall_mem_cons.mpr ⟨mw_7_17, (List.forall_mem_cons.mpr ⟨mw_7_18, (List.forall_mem_cons.mpr ⟨mw_7_19, (List.forall_mem_cons.mpr ⟨mw_7_20, (List.forall_mem_cons.mpr ⟨mw_7_21, (List.forall_mem_cons.mpr ⟨mw_10_17, (List.forall_mem_cons.mpr ⟨mw_10_18, (List.forall_mem_cons.mpr ⟨mw_10_19, (List.forall_mem_cons.mpr ⟨mw_10_20, (fun _ h => absurd h List.not_mem_nil)⟩)⟩)⟩)⟩)⟩)⟩)⟩)⟩)⟩)⟩)⟩)⟩)⟩)⟩)⟩)⟩)⟩)⟩)⟩)
theorem memT_wsX6_giveBack : ∀ w ∈ wsX6_giveBack, w ∈ lw_tbl := by
  unfold wsX6_giveBack
  exact (List.forall_mem_cons.mpr ⟨mw_14_3, (List.forall_mem_append.mpr ⟨(List.forall_mem_append.mpr ⟨memT_wsX6_giveBack_r1, memT_wsX6_giveBack_r2⟩), inX6⟩)⟩)
theorem mw_14_2 : (Cond.selects RX6 yX6_giveBack yX6_giveBack) ∈ lw_tbl := wsL_in_r14 _ (List.mem_of_getElem? (i := 2) rfl)
theorem mw_14_1 : (Cond.instanceMethod yX6_giveBack) ∈ lw_tbl := wsL_in_r14 _ (List.mem_of_getElem? (i := 1) rfl)
theorem mw_14_0 : (Cond.methodLink RL 118 yX6_giveBack) ∈ lw_tbl := wsL_in_r14 _ (List.mem_of_getElem? (i := 0) rfl)
set_option maxRecDepth 20000 in
theorem gT_X6_giveBack : GoodIn lw_tbl (wsV RL 118 RX6 yX6_giveBack wsX6_giveBack) := goodIn_sub (by
  unfold wsV
  exact List.forall_mem_append.mpr ⟨(List.forall_mem_cons.mpr ⟨mw_14_0, (List.forall_mem_cons.mpr ⟨mw_14_1, (List.forall_mem_cons.mpr ⟨mw_14_2, (List.forall_mem_cons.mpr ⟨mw_1_5, (fun _ h => absurd h List.not_mem_nil)⟩)⟩)⟩)⟩), memT_wsX6_giveBack⟩) (by decide +kernel)
theorem mw_14_10 : (Cond.codeWith yL_mask cL_mask 4 (some .int) [(0, 9, 12, 21), (0, 9, 15, 15)]) ∈ lw_tbl := wsL_in_r14 _ (List.mem_of_getElem? (i := 10) rfl)
theorem mw_14_17 : (Cond.code yX0_reasonNoMask cX0_reasonNoMask 2 (some .int)) ∈ lw_tbl := wsL_in_r14 _ (List.mem_of_getElem? (i := 17) rfl)
theorem mw_14_16 : (Cond.selects RX0 yX0_reasonNoMask yX0_reasonNoMask) ∈ lw_tbl := wsL_in_r14 _ (List.mem_of_getElem? (i := 16) rfl)
theorem mw_14_15 : (Cond.instanceMethod yX0_reasonNoMask) ∈ lw_tbl := wsL_in_r14 _ (List.mem_of_getElem? (i := 15) rfl)
theorem mw_14_14 : (Cond.code yX5_mask cX5_mask 2 (some .int)) ∈ lw_tbl := wsL_in_r14 _ (List.mem_of_getElem? (i := 14) rfl)
theorem mw_14_13 : (Cond.selects RX5 yX5_mask yX5_mask) ∈ lw_tbl := wsL_in_r14 _ (List.mem_of_getElem? (i := 13) rfl)
theorem mw_14_12 : (Cond.instanceMethod yX5_mask) ∈ lw_tbl := wsL_in_r14 _ (List.mem_of_getElem? (i := 12) rfl)
theorem mw_14_11 : (Cond.methodLink RL 33 yX5_mask) ∈ lw_tbl := wsL_in_r14 _ (List.mem_of_getElem? (i := 11) rfl)
theorem memT_wsL_mask_r1 : ∀ w ∈ wsL_mask_r1, w ∈ lw_tbl := by
  unfold wsL_mask_r1
  exact (List.forall_mem_cons.mpr ⟨mw_8_5, (List.forall_mem_cons.mpr ⟨mw_4_17, (List.forall_mem_cons.mpr ⟨mw_14_11, (List.forall_mem_cons.mpr ⟨mw_14_12, (List.forall_mem_cons.mpr ⟨mw_14_13, (List.forall_mem_cons.mpr ⟨mw_1_2, (List.forall_mem_cons.mpr ⟨mw_14_14, (List.forall_mem_cons.mpr ⟨mw_1_16, (List.forall_mem_cons.mpr ⟨mw_1_21, (List.forall_mem_cons.mpr ⟨mw_8_10, (List.forall_mem_cons.mpr ⟨mw_8_11, (List.forall_mem_cons.mpr ⟨mw_8_12, (List.forall_mem_cons.mpr ⟨mw_8_13, (List.forall_mem_cons.mpr ⟨mw_8_14, (List.forall_mem_cons.mpr ⟨mw_8_15, (List.forall_mem_cons.mpr ⟨mw_8_16, (List.forall_mem_cons.mpr ⟨mw_2_8, (List.forall_mem_cons.mpr ⟨mw_8_17, (List.forall_mem_cons.mpr ⟨mw_8_18, (List.forall_mem_cons.mpr ⟨mw_6_9, (List.forall_mem_cons.mpr ⟨mw_14_15, (List.forall_mem_cons.mpr ⟨mw_1_15, (List.forall_mem_cons.mpr ⟨mw_14_16, (List.forall_mem_cons.mpr ⟨mw_14_17, (fun _ h => absurd h List.not_mem_nil)⟩)⟩)⟩)⟩)⟩)⟩)⟩)⟩)⟩)⟩)⟩)⟩)⟩)⟩)⟩)⟩)⟩)⟩)⟩)⟩)⟩)⟩)⟩)⟩)
theorem memT_wsL_mask_r2 : ∀ w ∈ wsL_mask_r2, w ∈ lw_tbl := by
  unfold wsL_mask_r2
  exact (List.forall_mem_cons.mpr ⟨mw_2_9, (List.forall_mem_cons.mpr ⟨mw_9_1, (List.forall_mem_cons.mpr ⟨mw_9_2, (List.forall_mem_cons.mpr ⟨mw_5_6, (List.forall_mem_cons.mpr ⟨mw_5_7, (List.forall_mem_cons.mpr ⟨mw_5_8, (List.forall_mem_cons.mpr ⟨mw_5_9, (List.forall_mem_cons.mpr ⟨mw_5_10, (List.forall_mem_cons.mpr ⟨mw_5_11, (List.forall_mem_cons.mpr ⟨mw_1_20, (List.forall_mem_cons.mpr ⟨mw_5_12, (List.forall_mem_cons.mpr ⟨mw_5_13, (List.forall_mem_cons.mpr ⟨mw_5_14, (List.forall_mem_cons.mpr ⟨mw_5_15, (List.forall_mem_cons.mpr ⟨mw_5_16, (List.forall_mem_cons.mpr ⟨mw_5_17, (List.forall_mem_cons.mpr ⟨mw_5_18, (List.forall_mem_cons.mpr ⟨mw_5_19, (List.forall_mem_cons.mpr ⟨mw_4_0, (List.forall_mem_cons.mpr ⟨mw_5_20, (List.forall_mem_cons.mpr ⟨mw_5_21, (List.forall_mem_cons.mpr ⟨mw_5_22, (List.forall_mem_cons.mpr ⟨mw_2_13, (List.forall_mem_cons.mpr ⟨mw_2_15, (fun _ h => absurd h List.not_mem_nil)⟩)⟩)⟩)⟩)⟩)⟩)⟩)⟩)⟩)⟩)⟩)⟩)⟩)⟩)⟩)⟩)⟩)⟩)⟩)⟩)⟩)⟩)⟩)⟩)
theorem memT_wsL_mask_r3 : ∀ w ∈ wsL_mask_r3, w ∈ lw_tbl := by
  unfold wsL_mask_r3
  exact (List.forall_mem_cons.mpr ⟨mw_5_23, (List.forall_mem_cons.mpr ⟨mw_6_0, (List.forall_mem_cons.mpr ⟨mw_6_1, (List.forall_mem_cons.mpr ⟨mw_6_2, (List.forall_mem_cons.mpr ⟨mw_6_3, (List.forall_mem_cons.mpr ⟨mw_6_4, (List.forall_mem_cons.mpr ⟨mw_6_5, (List.forall_mem_cons.mpr ⟨mw_2_16, (List.forall_mem_cons.mpr ⟨mw_2_17, (List.forall_mem_cons.mpr ⟨mw_6_6, (List.forall_mem_cons.mpr ⟨mw_6_7, (List.forall_mem_cons.mpr ⟨mw_6_8, (List.forall_mem_cons.mpr ⟨mw_2_21, (List.forall_mem_cons.mpr ⟨mw_2_22, (List.forall_mem_cons.mpr ⟨mw_2_23, (List.forall_mem_cons.mpr ⟨mw_3_0, (List.forall_mem_cons.mpr ⟨mw_3_1, (List.forall_mem_cons.mpr ⟨mw_3_2, (List.forall_mem_cons.mpr ⟨mw_3_3, (List.forall_mem_cons.mpr ⟨mw_3_4, (List.forall_mem_cons.mpr ⟨mw_3_10, (List.forall_mem_cons.mpr ⟨mw_3_11, (List.forall_mem_cons.mpr ⟨mw_3_12, (List.forall_mem_cons.mpr ⟨mw_3_13, (fun _ h => absurd h List.not_mem_nil)⟩)⟩)⟩)⟩)⟩)⟩)⟩)⟩)⟩)⟩)⟩)⟩)⟩)⟩)⟩)⟩)⟩)⟩)⟩)⟩)⟩)⟩)⟩)⟩)
theorem mw_14_23 : (Cond.code yX1_payFromPurse cX1_payFromPurse 3 (some .int)) ∈ lw_tbl := wsL_in_r14 _ (List.mem_of_getElem? (i := 23) rfl)
theorem mw_14_22 : (Cond.selects RX1 yX1_payFromPurse yX1_payFromPurse) ∈ lw_tbl := wsL_in_r14 _ (List.mem_of_getElem? (i := 22) rfl)
theorem mw_14_21 : (Cond.instanceMethod yX1_payFromPurse) ∈ lw_tbl := wsL_in_r14 _ (List.mem_of_getElem? (i := 21) rfl)
theorem mw_14_20 : (Cond.code yX0_takeMask cX0_takeMask 2 none) ∈ lw_tbl := wsL_in_r14 _ (List.mem_of_getElem? (i := 20) rfl)
theorem mw_14_19 : (Cond.selects RX0 yX0_takeMask yX0_takeMask) ∈ lw_tbl := wsL_in_r14 _ (List.mem_of_getElem? (i := 19) rfl)
theorem mw_14_18 : (Cond.instanceMethod yX0_takeMask) ∈ lw_tbl := wsL_in_r14 _ (List.mem_of_getElem? (i := 18) rfl)
theorem memT_wsL_mask_r4 : ∀ w ∈ wsL_mask_r4, w ∈ lw_tbl := by
  unfold wsL_mask_r4
  exact (List.forall_mem_cons.mpr ⟨mw_3_14, (List.forall_mem_cons.mpr ⟨mw_3_15, (List.forall_mem_cons.mpr ⟨mw_3_16, (List.forall_mem_cons.mpr ⟨mw_3_17, (List.forall_mem_cons.mpr ⟨mw_3_18, (List.forall_mem_cons.mpr ⟨mw_3_19, (List.forall_mem_cons.mpr ⟨mw_6_10, (List.forall_mem_cons.mpr ⟨mw_2_12, (List.forall_mem_cons.mpr ⟨mw_6_11, (List.forall_mem_cons.mpr ⟨mw_6_12, (List.forall_mem_cons.mpr ⟨mw_3_8, (List.forall_mem_cons.mpr ⟨mw_3_9, (List.forall_mem_cons.mpr ⟨mw_14_18, (List.forall_mem_cons.mpr ⟨mw_14_19, (List.forall_mem_cons.mpr ⟨mw_14_20, (List.forall_mem_cons.mpr ⟨mw_14_21, (List.forall_mem_cons.mpr ⟨mw_14_22, (List.forall_mem_cons.mpr ⟨mw_14_23, (List.forall_mem_cons.mpr ⟨mw_6_19, (List.forall_mem_cons.mpr ⟨mw_6_20, (List.forall_mem_cons.mpr ⟨mw_12_18, (fun _ h => absurd h List.not_mem_nil)⟩)⟩)⟩)⟩)⟩)⟩)⟩)⟩)⟩)⟩)⟩)⟩)⟩)⟩)⟩)⟩)⟩)⟩)⟩)⟩)⟩)
theorem memT_wsL_mask : ∀ w ∈ wsL_mask, w ∈ lw_tbl := by
  unfold wsL_mask
  exact (List.forall_mem_cons.mpr ⟨mw_14_10, (List.forall_mem_append.mpr ⟨(List.forall_mem_append.mpr ⟨(List.forall_mem_append.mpr ⟨(List.forall_mem_append.mpr ⟨(List.forall_mem_append.mpr ⟨(List.forall_mem_append.mpr ⟨(List.forall_mem_append.mpr ⟨(List.forall_mem_append.mpr ⟨memT_wsL_mask_r1, (List.forall_mem_append.mpr ⟨memT_wsL_mask_r2, (List.forall_mem_append.mpr ⟨memT_wsL_mask_r3, memT_wsL_mask_r4⟩)⟩)⟩), inX5⟩), inX0⟩), inX1⟩), inX2⟩), inX3⟩), wsL_law__x2⟩), wsL_law__x1⟩)⟩)
theorem mw_14_9 : (Cond.static yL_mask) ∈ lw_tbl := wsL_in_r14 _ (List.mem_of_getElem? (i := 9) rfl)
theorem mw_14_8 : (Cond.methodLink RL 119 yL_mask) ∈ lw_tbl := wsL_in_r14 _ (List.mem_of_getElem? (i := 8) rfl)
set_option maxRecDepth 20000 in
theorem gT_L_mask : GoodIn lw_tbl (va_wsS RL 119 yL_mask wsL_mask) := goodIn_sub (by
  unfold va_wsS
  exact List.forall_mem_append.mpr ⟨(List.forall_mem_cons.mpr ⟨mw_14_8, (List.forall_mem_cons.mpr ⟨mw_14_9, (List.forall_mem_cons.mpr ⟨mw_4_14, (fun _ h => absurd h List.not_mem_nil)⟩)⟩)⟩), memT_wsL_mask⟩) (by decide +kernel)
theorem mw_15_3 : (Cond.code yX6_mask cX6_mask 3 (some .int)) ∈ lw_tbl := wsL_in_r15 _ (List.mem_of_getElem? (i := 3) rfl)
theorem mw_15_7 : (Cond.code yX6_whyNoMask cX6_whyNoMask 2 (some .int)) ∈ lw_tbl := wsL_in_r15 _ (List.mem_of_getElem? (i := 7) rfl)
theorem mw_15_6 : (Cond.selects RX6 yX6_whyNoMask yX6_whyNoMask) ∈ lw_tbl := wsL_in_r15 _ (List.mem_of_getElem? (i := 6) rfl)
theorem mw_15_5 : (Cond.instanceMethod yX6_whyNoMask) ∈ lw_tbl := wsL_in_r15 _ (List.mem_of_getElem? (i := 5) rfl)
theorem mw_15_4 : (Cond.methodLink RX6 93 yX6_whyNoMask) ∈ lw_tbl := wsL_in_r15 _ (List.mem_of_getElem? (i := 4) rfl)
theorem memT_wsX6_mask_r1 : ∀ w ∈ wsX6_mask_r1, w ∈ lw_tbl := by
  unfold wsX6_mask_r1
  exact (List.forall_mem_cons.mpr ⟨mw_10_9, (List.forall_mem_cons.mpr ⟨mw_10_10, (List.forall_mem_cons.mpr ⟨mw_10_11, (List.forall_mem_cons.mpr ⟨mw_1_5, (List.forall_mem_cons.mpr ⟨mw_10_12, (List.forall_mem_cons.mpr ⟨mw_4_9, (List.forall_mem_cons.mpr ⟨mw_7_1, (List.forall_mem_cons.mpr ⟨mw_7_2, (List.forall_mem_cons.mpr ⟨mw_7_3, (List.forall_mem_cons.mpr ⟨mw_15_4, (List.forall_mem_cons.mpr ⟨mw_15_5, (List.forall_mem_cons.mpr ⟨mw_15_6, (List.forall_mem_cons.mpr ⟨mw_15_7, (List.forall_mem_cons.mpr ⟨mw_10_13, (List.forall_mem_cons.mpr ⟨mw_10_14, (List.forall_mem_cons.mpr ⟨mw_10_15, (List.forall_mem_cons.mpr ⟨mw_10_16, (List.forall_mem_cons.mpr ⟨mw_7_4, (List.forall_mem_cons.mpr ⟨mw_7_5, (List.forall_mem_cons.mpr ⟨mw_7_6, (List.forall_mem_cons.mpr ⟨mw_7_7, (List.forall_mem_cons.mpr ⟨mw_7_8, (List.forall_mem_cons.mpr ⟨mw_7_9, (List.forall_mem_cons.mpr ⟨mw_7_10, (fun _ h => absurd h List.not_mem_nil)⟩)⟩)⟩)⟩)⟩)⟩)⟩)⟩)⟩)⟩)⟩)⟩)⟩)⟩)⟩)⟩)⟩)⟩)⟩)⟩)⟩)⟩)⟩)⟩)
theorem mw_15_15 : (Cond.code yX6_paysToChest cX6_paysToChest 3 none) ∈ lw_tbl := wsL_in_r15 _ (List.mem_of_getElem? (i := 15) rfl)
theorem mw_15_14 : (Cond.selects RX6 yX6_paysToChest yX6_paysToChest) ∈ lw_tbl := wsL_in_r15 _ (List.mem_of_getElem? (i := 14) rfl)
theorem mw_15_13 : (Cond.instanceMethod yX6_paysToChest) ∈ lw_tbl := wsL_in_r15 _ (List.mem_of_getElem? (i := 13) rfl)
theorem mw_15_12 : (Cond.methodLink RX6 49 yX6_paysToChest) ∈ lw_tbl := wsL_in_r15 _ (List.mem_of_getElem? (i := 12) rfl)
theorem mw_15_11 : (Cond.code yX6_masks cX6_masks 2 (some .int)) ∈ lw_tbl := wsL_in_r15 _ (List.mem_of_getElem? (i := 11) rfl)
theorem mw_15_10 : (Cond.selects RX6 yX6_masks yX6_masks) ∈ lw_tbl := wsL_in_r15 _ (List.mem_of_getElem? (i := 10) rfl)
theorem mw_15_9 : (Cond.instanceMethod yX6_masks) ∈ lw_tbl := wsL_in_r15 _ (List.mem_of_getElem? (i := 9) rfl)
theorem mw_15_8 : (Cond.methodLink RX6 96 yX6_masks) ∈ lw_tbl := wsL_in_r15 _ (List.mem_of_getElem? (i := 8) rfl)
theorem memT_wsX6_mask_r2 : ∀ w ∈ wsX6_mask_r2, w ∈ lw_tbl := by
  unfold wsX6_mask_r2
  exact (List.forall_mem_cons.mpr ⟨mw_7_11, (List.forall_mem_cons.mpr ⟨mw_7_12, (List.forall_mem_cons.mpr ⟨mw_7_13, (List.forall_mem_cons.mpr ⟨mw_7_14, (List.forall_mem_cons.mpr ⟨mw_7_15, (List.forall_mem_cons.mpr ⟨mw_7_16, (List.forall_mem_cons.mpr ⟨mw_7_17, (List.forall_mem_cons.mpr ⟨mw_15_8, (List.forall_mem_cons.mpr ⟨mw_15_9, (List.forall_mem_cons.mpr ⟨mw_15_10, (List.forall_mem_cons.mpr ⟨mw_15_11, (List.forall_mem_cons.mpr ⟨mw_15_12, (List.forall_mem_cons.mpr ⟨mw_15_13, (List.forall_mem_cons.mpr ⟨mw_15_14, (List.forall_mem_cons.mpr ⟨mw_15_15, (List.forall_mem_cons.mpr ⟨mw_7_18, (List.forall_mem_cons.mpr ⟨mw_7_19, (List.forall_mem_cons.mpr ⟨mw_7_20, (List.forall_mem_cons.mpr ⟨mw_7_21, (fun _ h => absurd h List.not_mem_nil)⟩)⟩)⟩)⟩)⟩)⟩)⟩)⟩)⟩)⟩)⟩)⟩)⟩)⟩)⟩)⟩)⟩)⟩)⟩)
theorem memT_wsX6_mask : ∀ w ∈ wsX6_mask, w ∈ lw_tbl := by
  unfold wsX6_mask
  exact (List.forall_mem_cons.mpr ⟨mw_15_3, (List.forall_mem_append.mpr ⟨(List.forall_mem_append.mpr ⟨memT_wsX6_mask_r1, memT_wsX6_mask_r2⟩), inX6⟩)⟩)
theorem mw_15_2 : (Cond.selects RX6 yX6_mask yX6_mask) ∈ lw_tbl := wsL_in_r15 _ (List.mem_of_getElem? (i := 2) rfl)
theorem mw_15_1 : (Cond.instanceMethod yX6_mask) ∈ lw_tbl := wsL_in_r15 _ (List.mem_of_getElem? (i := 1) rfl)
theorem mw_15_0 : (Cond.methodLink RL 121 yX6_mask) ∈ lw_tbl := wsL_in_r15 _ (List.mem_of_getElem? (i := 0) rfl)
set_option maxRecDepth 20000 in
theorem gT_X6_mask : GoodIn lw_tbl (wsV RL 121 RX6 yX6_mask wsX6_mask) := goodIn_sub (by
  unfold wsV
  exact List.forall_mem_append.mpr ⟨(List.forall_mem_cons.mpr ⟨mw_15_0, (List.forall_mem_cons.mpr ⟨mw_15_1, (List.forall_mem_cons.mpr ⟨mw_15_2, (List.forall_mem_cons.mpr ⟨mw_1_5, (fun _ h => absurd h List.not_mem_nil)⟩)⟩)⟩)⟩), memT_wsX6_mask⟩) (by decide +kernel)
theorem mw_15_18 : (Cond.codeWith yL_pay cL_pay 4 (some .int) [(0, 9, 12, 21)]) ∈ lw_tbl := wsL_in_r15 _ (List.mem_of_getElem? (i := 18) rfl)
theorem mw_15_22 : (Cond.code yX5_pay cX5_pay 2 (some .int)) ∈ lw_tbl := wsL_in_r15 _ (List.mem_of_getElem? (i := 22) rfl)
theorem mw_15_21 : (Cond.selects RX5 yX5_pay yX5_pay) ∈ lw_tbl := wsL_in_r15 _ (List.mem_of_getElem? (i := 21) rfl)
theorem mw_15_20 : (Cond.instanceMethod yX5_pay) ∈ lw_tbl := wsL_in_r15 _ (List.mem_of_getElem? (i := 20) rfl)
theorem mw_15_19 : (Cond.methodLink RL 36 yX5_pay) ∈ lw_tbl := wsL_in_r15 _ (List.mem_of_getElem? (i := 19) rfl)
theorem memT_wsL_pay_r1 : ∀ w ∈ wsL_pay_r1, w ∈ lw_tbl := by
  unfold wsL_pay_r1
  exact (List.forall_mem_cons.mpr ⟨mw_8_5, (List.forall_mem_cons.mpr ⟨mw_15_19, (List.forall_mem_cons.mpr ⟨mw_15_20, (List.forall_mem_cons.mpr ⟨mw_15_21, (List.forall_mem_cons.mpr ⟨mw_1_2, (List.forall_mem_cons.mpr ⟨mw_15_22, (List.forall_mem_cons.mpr ⟨mw_1_21, (List.forall_mem_cons.mpr ⟨mw_1_16, (List.forall_mem_cons.mpr ⟨mw_8_10, (List.forall_mem_cons.mpr ⟨mw_8_11, (List.forall_mem_cons.mpr ⟨mw_8_12, (List.forall_mem_cons.mpr ⟨mw_8_13, (List.forall_mem_cons.mpr ⟨mw_8_14, (List.forall_mem_cons.mpr ⟨mw_8_15, (List.forall_mem_cons.mpr ⟨mw_8_16, (List.forall_mem_cons.mpr ⟨mw_2_8, (List.forall_mem_cons.mpr ⟨mw_8_17, (List.forall_mem_cons.mpr ⟨mw_8_18, (List.forall_mem_cons.mpr ⟨mw_6_9, (List.forall_mem_cons.mpr ⟨mw_5_11, (List.forall_mem_cons.mpr ⟨mw_1_20, (List.forall_mem_cons.mpr ⟨mw_5_12, (List.forall_mem_cons.mpr ⟨mw_5_13, (List.forall_mem_cons.mpr ⟨mw_5_14, (fun _ h => absurd h List.not_mem_nil)⟩)⟩)⟩)⟩)⟩)⟩)⟩)⟩)⟩)⟩)⟩)⟩)⟩)⟩)⟩)⟩)⟩)⟩)⟩)⟩)⟩)⟩)⟩)⟩)
theorem memT_wsL_pay_r2 : ∀ w ∈ wsL_pay_r2, w ∈ lw_tbl := by
  unfold wsL_pay_r2
  exact (List.forall_mem_cons.mpr ⟨mw_5_15, (List.forall_mem_cons.mpr ⟨mw_5_16, (List.forall_mem_cons.mpr ⟨mw_5_17, (List.forall_mem_cons.mpr ⟨mw_5_18, (List.forall_mem_cons.mpr ⟨mw_5_19, (List.forall_mem_cons.mpr ⟨mw_4_0, (List.forall_mem_cons.mpr ⟨mw_5_20, (List.forall_mem_cons.mpr ⟨mw_1_15, (List.forall_mem_cons.mpr ⟨mw_5_21, (List.forall_mem_cons.mpr ⟨mw_5_22, (List.forall_mem_cons.mpr ⟨mw_2_9, (List.forall_mem_cons.mpr ⟨mw_2_13, (List.forall_mem_cons.mpr ⟨mw_2_15, (List.forall_mem_cons.mpr ⟨mw_5_23, (List.forall_mem_cons.mpr ⟨mw_6_0, (List.forall_mem_cons.mpr ⟨mw_6_1, (List.forall_mem_cons.mpr ⟨mw_6_2, (List.forall_mem_cons.mpr ⟨mw_6_3, (List.forall_mem_cons.mpr ⟨mw_6_4, (List.forall_mem_cons.mpr ⟨mw_6_5, (List.forall_mem_cons.mpr ⟨mw_2_16, (List.forall_mem_cons.mpr ⟨mw_2_17, (List.forall_mem_cons.mpr ⟨mw_6_6, (List.forall_mem_cons.mpr ⟨mw_6_7, (fun _ h => absurd h List.not_mem_nil)⟩)⟩)⟩)⟩)⟩)⟩)⟩)⟩)⟩)⟩)⟩)⟩)⟩)⟩)⟩)⟩)⟩)⟩)⟩)⟩)⟩)⟩)⟩)⟩)
theorem memT_wsL_pay_r3 : ∀ w ∈ wsL_pay_r3, w ∈ lw_tbl := by
  unfold wsL_pay_r3
  exact (List.forall_mem_cons.mpr ⟨mw_6_8, (List.forall_mem_cons.mpr ⟨mw_2_21, (List.forall_mem_cons.mpr ⟨mw_2_22, (List.forall_mem_cons.mpr ⟨mw_2_23, (List.forall_mem_cons.mpr ⟨mw_3_0, (List.forall_mem_cons.mpr ⟨mw_3_1, (List.forall_mem_cons.mpr ⟨mw_3_2, (List.forall_mem_cons.mpr ⟨mw_3_3, (List.forall_mem_cons.mpr ⟨mw_3_4, (List.forall_mem_cons.mpr ⟨mw_3_10, (List.forall_mem_cons.mpr ⟨mw_3_11, (List.forall_mem_cons.mpr ⟨mw_3_12, (List.forall_mem_cons.mpr ⟨mw_3_13, (List.forall_mem_cons.mpr ⟨mw_3_14, (List.forall_mem_cons.mpr ⟨mw_3_15, (List.forall_mem_cons.mpr ⟨mw_3_16, (List.forall_mem_cons.mpr ⟨mw_3_17, (List.forall_mem_cons.mpr ⟨mw_3_18, (List.forall_mem_cons.mpr ⟨mw_3_19, (List.forall_mem_cons.mpr ⟨mw_6_10, (List.forall_mem_cons.mpr ⟨mw_2_12, (List.forall_mem_cons.mpr ⟨mw_6_11, (List.forall_mem_cons.mpr ⟨mw_6_12, (List.forall_mem_cons.mpr ⟨mw_3_8, (fun _ h => absurd h List.not_mem_nil)⟩)⟩)⟩)⟩)⟩)⟩)⟩)⟩)⟩)⟩)⟩)⟩)⟩)⟩)⟩)⟩)⟩)⟩)⟩)⟩)⟩)⟩)⟩)⟩)
theorem mw_16_1 : (Cond.code yX0_payDebts cX0_payDebts 4 none) ∈ lw_tbl := wsL_in_r16 _ (List.mem_of_getElem? (i := 1) rfl)
theorem mw_16_0 : (Cond.selects RX0 yX0_payDebts yX0_payDebts) ∈ lw_tbl := wsL_in_r16 _ (List.mem_of_getElem? (i := 0) rfl)
theorem mw_15_23 : (Cond.instanceMethod yX0_payDebts) ∈ lw_tbl := wsL_in_r15 _ (List.mem_of_getElem? (i := 23) rfl)
theorem memT_wsL_pay_r4 : ∀ w ∈ wsL_pay_r4, w ∈ lw_tbl := by
  unfold wsL_pay_r4
  exact (List.forall_mem_cons.mpr ⟨mw_3_9, (List.forall_mem_cons.mpr ⟨mw_15_23, (List.forall_mem_cons.mpr ⟨mw_16_0, (List.forall_mem_cons.mpr ⟨mw_16_1, (List.forall_mem_cons.mpr ⟨mw_11_19, (List.forall_mem_cons.mpr ⟨mw_9_1, (List.forall_mem_cons.mpr ⟨mw_9_2, (List.forall_mem_cons.mpr ⟨mw_14_21, (List.forall_mem_cons.mpr ⟨mw_14_22, (List.forall_mem_cons.mpr ⟨mw_14_23, (List.forall_mem_cons.mpr ⟨mw_6_19, (List.forall_mem_cons.mpr ⟨mw_6_20, (List.forall_mem_cons.mpr ⟨mw_12_18, (fun _ h => absurd h List.not_mem_nil)⟩)⟩)⟩)⟩)⟩)⟩)⟩)⟩)⟩)⟩)⟩)⟩)⟩)
theorem memT_wsL_pay : ∀ w ∈ wsL_pay, w ∈ lw_tbl := by
  unfold wsL_pay
  exact (List.forall_mem_cons.mpr ⟨mw_15_18, (List.forall_mem_append.mpr ⟨(List.forall_mem_append.mpr ⟨(List.forall_mem_append.mpr ⟨(List.forall_mem_append.mpr ⟨(List.forall_mem_append.mpr ⟨(List.forall_mem_append.mpr ⟨(List.forall_mem_append.mpr ⟨memT_wsL_pay_r1, (List.forall_mem_append.mpr ⟨memT_wsL_pay_r2, (List.forall_mem_append.mpr ⟨memT_wsL_pay_r3, memT_wsL_pay_r4⟩)⟩)⟩), inX5⟩), inX0⟩), inX1⟩), inX2⟩), inX3⟩), wsL_law__x2⟩)⟩)
theorem mw_15_17 : (Cond.static yL_pay) ∈ lw_tbl := wsL_in_r15 _ (List.mem_of_getElem? (i := 17) rfl)
theorem mw_15_16 : (Cond.methodLink RL 122 yL_pay) ∈ lw_tbl := wsL_in_r15 _ (List.mem_of_getElem? (i := 16) rfl)
set_option maxRecDepth 20000 in
theorem gT_L_pay : GoodIn lw_tbl (va_wsS RL 122 yL_pay wsL_pay) := goodIn_sub (by
  unfold va_wsS
  exact List.forall_mem_append.mpr ⟨(List.forall_mem_cons.mpr ⟨mw_15_16, (List.forall_mem_cons.mpr ⟨mw_15_17, (List.forall_mem_cons.mpr ⟨mw_4_14, (fun _ h => absurd h List.not_mem_nil)⟩)⟩)⟩), memT_wsL_pay⟩) (by decide +kernel)
theorem mw_16_5 : (Cond.code yX6_pay cX6_pay 2 (some .int)) ∈ lw_tbl := wsL_in_r16 _ (List.mem_of_getElem? (i := 5) rfl)
theorem mw_16_6 : (Cond.methodLink RX6 99 yX6_pays) ∈ lw_tbl := wsL_in_r16 _ (List.mem_of_getElem? (i := 6) rfl)
theorem memT_wsX6_pay_r1 : ∀ w ∈ wsX6_pay_r1, w ∈ lw_tbl := by
  unfold wsX6_pay_r1
  exact (List.forall_mem_cons.mpr ⟨mw_10_9, (List.forall_mem_cons.mpr ⟨mw_10_10, (List.forall_mem_cons.mpr ⟨mw_10_11, (List.forall_mem_cons.mpr ⟨mw_1_5, (List.forall_mem_cons.mpr ⟨mw_10_12, (List.forall_mem_cons.mpr ⟨mw_4_9, (List.forall_mem_cons.mpr ⟨mw_7_1, (List.forall_mem_cons.mpr ⟨mw_7_2, (List.forall_mem_cons.mpr ⟨mw_7_3, (List.forall_mem_cons.mpr ⟨mw_7_4, (List.forall_mem_cons.mpr ⟨mw_7_5, (List.forall_mem_cons.mpr ⟨mw_7_6, (List.forall_mem_cons.mpr ⟨mw_7_7, (List.forall_mem_cons.mpr ⟨mw_7_8, (List.forall_mem_cons.mpr ⟨mw_7_9, (List.forall_mem_cons.mpr ⟨mw_7_10, (List.forall_mem_cons.mpr ⟨mw_7_11, (List.forall_mem_cons.mpr ⟨mw_7_12, (List.forall_mem_cons.mpr ⟨mw_7_13, (List.forall_mem_cons.mpr ⟨mw_7_14, (List.forall_mem_cons.mpr ⟨mw_7_15, (List.forall_mem_cons.mpr ⟨mw_7_16, (List.forall_mem_cons.mpr ⟨mw_7_17, (List.forall_mem_cons.mpr ⟨mw_16_6, (fun _ h => absurd h List.not_mem_nil)⟩)⟩)⟩)⟩)⟩)⟩)⟩)⟩)⟩)⟩)⟩)⟩)⟩)⟩)⟩)⟩)⟩)⟩)⟩)⟩)⟩)⟩)⟩)⟩)
theorem mw_16_9 : (Cond.code yX6_pays cX6_pays 3 (some .int)) ∈ lw_tbl := wsL_in_r16 _ (List.mem_of_getElem? (i := 9) rfl)
theorem mw_16_8 : (Cond.selects RX6 yX6_pays yX6_pays) ∈ lw_tbl := wsL_in_r16 _ (List.mem_of_getElem? (i := 8) rfl)
theorem mw_16_7 : (Cond.instanceMethod yX6_pays) ∈ lw_tbl := wsL_in_r16 _ (List.mem_of_getElem? (i := 7) rfl)
theorem memT_wsX6_pay_r2 : ∀ w ∈ wsX6_pay_r2, w ∈ lw_tbl := by
  unfold wsX6_pay_r2
  exact (List.forall_mem_cons.mpr ⟨mw_16_7, (List.forall_mem_cons.mpr ⟨mw_16_8, (List.forall_mem_cons.mpr ⟨mw_16_9, (List.forall_mem_cons.mpr ⟨mw_10_13, (List.forall_mem_cons.mpr ⟨mw_10_14, (List.forall_mem_cons.mpr ⟨mw_10_15, (List.forall_mem_cons.mpr ⟨mw_10_16, (List.forall_mem_cons.mpr ⟨mw_12_0, (List.forall_mem_cons.mpr ⟨mw_12_1, (List.forall_mem_cons.mpr ⟨mw_12_2, (List.forall_mem_cons.mpr ⟨mw_15_12, (List.forall_mem_cons.mpr ⟨mw_15_13, (List.forall_mem_cons.mpr ⟨mw_15_14, (List.forall_mem_cons.mpr ⟨mw_15_15, (List.forall_mem_cons.mpr ⟨mw_7_18, (List.forall_mem_cons.mpr ⟨mw_7_19, (List.forall_mem_cons.mpr ⟨mw_7_20, (List.forall_mem_cons.mpr ⟨mw_7_21, (fun _ h => absurd h List.not_mem_nil)⟩)⟩)⟩)⟩)⟩)⟩)⟩)⟩)⟩)⟩)⟩)⟩)⟩)⟩)⟩)⟩)⟩)⟩)
theorem memT_wsX6_pay : ∀ w ∈ wsX6_pay, w ∈ lw_tbl := by
  unfold wsX6_pay
  exact (List.forall_mem_cons.mpr ⟨mw_16_5, (List.forall_mem_append.mpr ⟨(List.forall_mem_append.mpr ⟨memT_wsX6_pay_r1, memT_wsX6_pay_r2⟩), inX6⟩)⟩)
theorem mw_16_4 : (Cond.selects RX6 yX6_pay yX6_pay) ∈ lw_tbl := wsL_in_r16 _ (List.mem_of_getElem? (i := 4) rfl)
theorem mw_16_3 : (Cond.instanceMethod yX6_pay) ∈ lw_tbl := wsL_in_r16 _ (List.mem_of_getElem? (i := 3) rfl)
theorem mw_16_2 : (Cond.methodLink RL 124 yX6_pay) ∈ lw_tbl := wsL_in_r16 _ (List.mem_of_getElem? (i := 2) rfl)
set_option maxRecDepth 20000 in
theorem gT_X6_pay : GoodIn lw_tbl (wsV RL 124 RX6 yX6_pay wsX6_pay) := goodIn_sub (by
  unfold wsV
  exact List.forall_mem_append.mpr ⟨(List.forall_mem_cons.mpr ⟨mw_16_2, (List.forall_mem_cons.mpr ⟨mw_16_3, (List.forall_mem_cons.mpr ⟨mw_16_4, (List.forall_mem_cons.mpr ⟨mw_1_5, (fun _ h => absurd h List.not_mem_nil)⟩)⟩)⟩)⟩), memT_wsX6_pay⟩) (by decide +kernel)
theorem mw_16_12 : (Cond.codeWith yL_queue cL_queue 5 (some .int) [(0, 10, 13, 21), (0, 10, 17, 15)]) ∈ lw_tbl := wsL_in_r16 _ (List.mem_of_getElem? (i := 12) rfl)
theorem mw_16_19 : (Cond.code yX5_isGate cX5_isGate 1 (some .boolean)) ∈ lw_tbl := wsL_in_r16 _ (List.mem_of_getElem? (i := 19) rfl)
theorem mw_16_18 : (Cond.static yX5_isGate) ∈ lw_tbl := wsL_in_r16 _ (List.mem_of_getElem? (i := 18) rfl)
theorem mw_16_17 : (Cond.methodLink RX5 118 yX5_isGate) ∈ lw_tbl := wsL_in_r16 _ (List.mem_of_getElem? (i := 17) rfl)
theorem mw_16_16 : (Cond.code yX5_queue cX5_queue 3 (some .int)) ∈ lw_tbl := wsL_in_r16 _ (List.mem_of_getElem? (i := 16) rfl)
theorem mw_16_15 : (Cond.selects RX5 yX5_queue yX5_queue) ∈ lw_tbl := wsL_in_r16 _ (List.mem_of_getElem? (i := 15) rfl)
theorem mw_16_14 : (Cond.instanceMethod yX5_queue) ∈ lw_tbl := wsL_in_r16 _ (List.mem_of_getElem? (i := 14) rfl)
theorem mw_16_13 : (Cond.methodLink RL 39 yX5_queue) ∈ lw_tbl := wsL_in_r16 _ (List.mem_of_getElem? (i := 13) rfl)
theorem memT_wsL_queue_r1 : ∀ w ∈ wsL_queue_r1, w ∈ lw_tbl := by
  unfold wsL_queue_r1
  exact (List.forall_mem_cons.mpr ⟨mw_8_5, (List.forall_mem_cons.mpr ⟨mw_4_17, (List.forall_mem_cons.mpr ⟨mw_16_13, (List.forall_mem_cons.mpr ⟨mw_16_14, (List.forall_mem_cons.mpr ⟨mw_16_15, (List.forall_mem_cons.mpr ⟨mw_1_2, (List.forall_mem_cons.mpr ⟨mw_16_16, (List.forall_mem_cons.mpr ⟨mw_1_16, (List.forall_mem_cons.mpr ⟨mw_1_21, (List.forall_mem_cons.mpr ⟨mw_8_10, (List.forall_mem_cons.mpr ⟨mw_8_11, (List.forall_mem_cons.mpr ⟨mw_8_12, (List.forall_mem_cons.mpr ⟨mw_8_13, (List.forall_mem_cons.mpr ⟨mw_8_14, (List.forall_mem_cons.mpr ⟨mw_8_15, (List.forall_mem_cons.mpr ⟨mw_8_16, (List.forall_mem_cons.mpr ⟨mw_2_8, (List.forall_mem_cons.mpr ⟨mw_8_17, (List.forall_mem_cons.mpr ⟨mw_8_18, (List.forall_mem_cons.mpr ⟨mw_6_9, (List.forall_mem_cons.mpr ⟨mw_16_17, (List.forall_mem_cons.mpr ⟨mw_16_18, (List.forall_mem_cons.mpr ⟨mw_16_19, (List.forall_mem_cons.mpr ⟨mw_4_22, (fun _ h => absurd h List.not_mem_nil)⟩)⟩)⟩)⟩)⟩)⟩)⟩)⟩)⟩)⟩)⟩)⟩)⟩)⟩)⟩)⟩)⟩)⟩)⟩)⟩)⟩)⟩)⟩)⟩)
theorem mw_17_1 : (Cond.code yX0_reasonNoLine cX0_reasonNoLine 2 (some .int)) ∈ lw_tbl := wsL_in_r17 _ (List.mem_of_getElem? (i := 1) rfl)
theorem mw_17_0 : (Cond.selects RX0 yX0_reasonNoLine yX0_reasonNoLine) ∈ lw_tbl := wsL_in_r17 _ (List.mem_of_getElem? (i := 0) rfl)
theorem mw_16_23 : (Cond.instanceMethod yX0_reasonNoLine) ∈ lw_tbl := wsL_in_r16 _ (List.mem_of_getElem? (i := 23) rfl)
theorem mw_16_22 : (Cond.code yX5_needIndex cX5_needIndex 1 none) ∈ lw_tbl := wsL_in_r16 _ (List.mem_of_getElem? (i := 22) rfl)
theorem mw_16_21 : (Cond.static yX5_needIndex) ∈ lw_tbl := wsL_in_r16 _ (List.mem_of_getElem? (i := 21) rfl)
theorem mw_16_20 : (Cond.methodLink RX5 121 yX5_needIndex) ∈ lw_tbl := wsL_in_r16 _ (List.mem_of_getElem? (i := 20) rfl)
theorem memT_wsL_queue_r2 : ∀ w ∈ wsL_queue_r2, w ∈ lw_tbl := by
  unfold wsL_queue_r2
  exact (List.forall_mem_cons.mpr ⟨mw_4_23, (List.forall_mem_cons.mpr ⟨mw_5_0, (List.forall_mem_cons.mpr ⟨mw_16_20, (List.forall_mem_cons.mpr ⟨mw_16_21, (List.forall_mem_cons.mpr ⟨mw_16_22, (List.forall_mem_cons.mpr ⟨mw_16_23, (List.forall_mem_cons.mpr ⟨mw_1_15, (List.forall_mem_cons.mpr ⟨mw_17_0, (List.forall_mem_cons.mpr ⟨mw_17_1, (List.forall_mem_cons.mpr ⟨mw_2_9, (List.forall_mem_cons.mpr ⟨mw_2_13, (List.forall_mem_cons.mpr ⟨mw_2_15, (List.forall_mem_cons.mpr ⟨mw_9_3, (List.forall_mem_cons.mpr ⟨mw_9_4, (List.forall_mem_cons.mpr ⟨mw_9_5, (List.forall_mem_cons.mpr ⟨mw_3_4, (List.forall_mem_cons.mpr ⟨mw_9_1, (List.forall_mem_cons.mpr ⟨mw_9_2, (List.forall_mem_cons.mpr ⟨mw_9_6, (List.forall_mem_cons.mpr ⟨mw_2_12, (List.forall_mem_cons.mpr ⟨mw_9_7, (List.forall_mem_cons.mpr ⟨mw_9_8, (List.forall_mem_cons.mpr ⟨mw_9_9, (List.forall_mem_cons.mpr ⟨mw_9_10, (fun _ h => absurd h List.not_mem_nil)⟩)⟩)⟩)⟩)⟩)⟩)⟩)⟩)⟩)⟩)⟩)⟩)⟩)⟩)⟩)⟩)⟩)⟩)⟩)⟩)⟩)⟩)⟩)⟩)
theorem memT_wsL_queue_r3 : ∀ w ∈ wsL_queue_r3, w ∈ lw_tbl := by
  unfold wsL_queue_r3
  exact (List.forall_mem_cons.mpr ⟨mw_9_11, (List.forall_mem_cons.mpr ⟨mw_9_12, (List.forall_mem_cons.mpr ⟨mw_3_9, (List.forall_mem_cons.mpr ⟨mw_3_8, (List.forall_mem_cons.mpr ⟨mw_5_6, (List.forall_mem_cons.mpr ⟨mw_5_7, (List.forall_mem_cons.mpr ⟨mw_5_8, (List.forall_mem_cons.mpr ⟨mw_5_9, (List.forall_mem_cons.mpr ⟨mw_5_10, (List.forall_mem_cons.mpr ⟨mw_5_11, (List.forall_mem_cons.mpr ⟨mw_1_20, (List.forall_mem_cons.mpr ⟨mw_5_12, (List.forall_mem_cons.mpr ⟨mw_5_13, (List.forall_mem_cons.mpr ⟨mw_5_14, (List.forall_mem_cons.mpr ⟨mw_5_15, (List.forall_mem_cons.mpr ⟨mw_5_16, (List.forall_mem_cons.mpr ⟨mw_5_17, (List.forall_mem_cons.mpr ⟨mw_5_18, (List.forall_mem_cons.mpr ⟨mw_5_19, (List.forall_mem_cons.mpr ⟨mw_4_0, (List.forall_mem_cons.mpr ⟨mw_5_20, (List.forall_mem_cons.mpr ⟨mw_5_21, (List.forall_mem_cons.mpr ⟨mw_5_22, (List.forall_mem_cons.mpr ⟨mw_5_23, (fun _ h => absurd h List.not_mem_nil)⟩)⟩)⟩)⟩)⟩)⟩)⟩)⟩)⟩)⟩)⟩)⟩)⟩)⟩)⟩)⟩)⟩)⟩)⟩)⟩)⟩)⟩)⟩)⟩)
theorem memT_wsL_queue_r4 : ∀ w ∈ wsL_queue_r4, w ∈ lw_tbl := by
  unfold wsL_queue_r4
  exact (List.forall_mem_cons.mpr ⟨mw_6_0, (List.forall_mem_cons.mpr ⟨mw_6_1, (List.forall_mem_cons.mpr ⟨mw_6_2, (List.forall_mem_cons.mpr ⟨mw_6_3, (List.forall_mem_cons.mpr ⟨mw_6_4, (List.forall_mem_cons.mpr ⟨mw_6_5, (List.forall_mem_cons.mpr ⟨mw_2_16, (List.forall_mem_cons.mpr ⟨mw_2_17, (List.forall_mem_cons.mpr ⟨mw_6_6, (List.forall_mem_cons.mpr ⟨mw_6_7, (List.forall_mem_cons.mpr ⟨mw_6_8, (List.forall_mem_cons.mpr ⟨mw_2_21, (List.forall_mem_cons.mpr ⟨mw_2_22, (List.forall_mem_cons.mpr ⟨mw_2_23, (List.forall_mem_cons.mpr ⟨mw_3_0, (List.forall_mem_cons.mpr ⟨mw_3_1, (List.forall_mem_cons.mpr ⟨mw_3_2, (List.forall_mem_cons.mpr ⟨mw_3_3, (List.forall_mem_cons.mpr ⟨mw_3_10, (List.forall_mem_cons.mpr ⟨mw_3_11, (List.forall_mem_cons.mpr ⟨mw_3_12, (List.forall_mem_cons.mpr ⟨mw_3_13, (List.forall_mem_cons.mpr ⟨mw_3_14, (List.forall_mem_cons.mpr ⟨mw_3_15, (fun _ h => absurd h List.not_mem_nil)⟩)⟩)⟩)⟩)⟩)⟩)⟩)⟩)⟩)⟩)⟩)⟩)⟩)⟩)⟩)⟩)⟩)⟩)⟩)⟩)⟩)⟩)⟩)⟩)
theorem mw_17_4 : (Cond.code yX3_enter cX3_enter 4 (some .int)) ∈ lw_tbl := wsL_in_r17 _ (List.mem_of_getElem? (i := 4) rfl)
theorem mw_17_3 : (Cond.selects RX3 yX3_enter yX3_enter) ∈ lw_tbl := wsL_in_r17 _ (List.mem_of_getElem? (i := 3) rfl)
theorem mw_17_2 : (Cond.instanceMethod yX3_enter) ∈ lw_tbl := wsL_in_r17 _ (List.mem_of_getElem? (i := 2) rfl)
theorem memT_wsL_queue_r5 : ∀ w ∈ wsL_queue_r5, w ∈ lw_tbl := by
  unfold wsL_queue_r5
  exact (List.forall_mem_cons.mpr ⟨mw_3_16, (List.forall_mem_cons.mpr ⟨mw_3_17, (List.forall_mem_cons.mpr ⟨mw_3_18, (List.forall_mem_cons.mpr ⟨mw_3_19, (List.forall_mem_cons.mpr ⟨mw_6_10, (List.forall_mem_cons.mpr ⟨mw_6_11, (List.forall_mem_cons.mpr ⟨mw_6_12, (List.forall_mem_cons.mpr ⟨mw_17_2, (List.forall_mem_cons.mpr ⟨mw_17_3, (List.forall_mem_cons.mpr ⟨mw_17_4, (List.forall_mem_cons.mpr ⟨mw_6_19, (List.forall_mem_cons.mpr ⟨mw_6_20, (fun _ h => absurd h List.not_mem_nil)⟩)⟩)⟩)⟩)⟩)⟩)⟩)⟩)⟩)⟩)⟩)⟩)
theorem memT_wsL_queue : ∀ w ∈ wsL_queue, w ∈ lw_tbl := by
  unfold wsL_queue
  exact (List.forall_mem_cons.mpr ⟨mw_16_12, (List.forall_mem_append.mpr ⟨(List.forall_mem_append.mpr ⟨(List.forall_mem_append.mpr ⟨(List.forall_mem_append.mpr ⟨(List.forall_mem_append.mpr ⟨(List.forall_mem_append.mpr ⟨(List.forall_mem_append.mpr ⟨(List.forall_mem_append.mpr ⟨memT_wsL_queue_r1, (List.forall_mem_append.mpr ⟨memT_wsL_queue_r2, (List.forall_mem_append.mpr ⟨memT_wsL_queue_r3, (List.forall_mem_append.mpr ⟨memT_wsL_queue_r4, memT_wsL_queue_r5⟩)⟩)⟩)⟩), inX5⟩), inX0⟩), inX1⟩), inX3⟩), inX2⟩), wsL_law__x2⟩), wsL_law__x1⟩)⟩)
theorem mw_16_11 : (Cond.static yL_queue) ∈ lw_tbl := wsL_in_r16 _ (List.mem_of_getElem? (i := 11) rfl)
theorem mw_16_10 : (Cond.methodLink RL 125 yL_queue) ∈ lw_tbl := wsL_in_r16 _ (List.mem_of_getElem? (i := 10) rfl)
set_option maxRecDepth 20000 in
theorem gT_L_queue : GoodIn lw_tbl (va_wsS RL 125 yL_queue wsL_queue) := goodIn_sub (by
  unfold va_wsS
  exact List.forall_mem_append.mpr ⟨(List.forall_mem_cons.mpr ⟨mw_16_10, (List.forall_mem_cons.mpr ⟨mw_16_11, (List.forall_mem_cons.mpr ⟨mw_4_14, (fun _ h => absurd h List.not_mem_nil)⟩)⟩)⟩), memT_wsL_queue⟩) (by decide +kernel)
theorem mw_17_8 : (Cond.code yX6_queue cX6_queue 4 (some .int)) ∈ lw_tbl := wsL_in_r17 _ (List.mem_of_getElem? (i := 8) rfl)
theorem mw_17_15 : (Cond.code yX6_whyNoLine cX6_whyNoLine 2 (some .int)) ∈ lw_tbl := wsL_in_r17 _ (List.mem_of_getElem? (i := 15) rfl)
theorem mw_17_14 : (Cond.selects RX6 yX6_whyNoLine yX6_whyNoLine) ∈ lw_tbl := wsL_in_r17 _ (List.mem_of_getElem? (i := 14) rfl)
theorem mw_17_13 : (Cond.instanceMethod yX6_whyNoLine) ∈ lw_tbl := wsL_in_r17 _ (List.mem_of_getElem? (i := 13) rfl)
theorem mw_17_12 : (Cond.methodLink RX6 105 yX6_whyNoLine) ∈ lw_tbl := wsL_in_r17 _ (List.mem_of_getElem? (i := 12) rfl)
theorem mw_17_11 : (Cond.code yX6_isGate cX6_isGate 1 (some .boolean)) ∈ lw_tbl := wsL_in_r17 _ (List.mem_of_getElem? (i := 11) rfl)
theorem mw_17_10 : (Cond.static yX6_isGate) ∈ lw_tbl := wsL_in_r17 _ (List.mem_of_getElem? (i := 10) rfl)
theorem mw_17_9 : (Cond.methodLink RX6 102 yX6_isGate) ∈ lw_tbl := wsL_in_r17 _ (List.mem_of_getElem? (i := 9) rfl)
theorem memT_wsX6_queue_r1 : ∀ w ∈ wsX6_queue_r1, w ∈ lw_tbl := by
  unfold wsX6_queue_r1
  exact (List.forall_mem_cons.mpr ⟨mw_10_9, (List.forall_mem_cons.mpr ⟨mw_10_10, (List.forall_mem_cons.mpr ⟨mw_10_11, (List.forall_mem_cons.mpr ⟨mw_1_5, (List.forall_mem_cons.mpr ⟨mw_10_12, (List.forall_mem_cons.mpr ⟨mw_4_9, (List.forall_mem_cons.mpr ⟨mw_7_1, (List.forall_mem_cons.mpr ⟨mw_7_2, (List.forall_mem_cons.mpr ⟨mw_7_3, (List.forall_mem_cons.mpr ⟨mw_17_9, (List.forall_mem_cons.mpr ⟨mw_17_10, (List.forall_mem_cons.mpr ⟨mw_17_11, (List.forall_mem_cons.mpr ⟨mw_17_12, (List.forall_mem_cons.mpr ⟨mw_17_13, (List.forall_mem_cons.mpr ⟨mw_17_14, (List.forall_mem_cons.mpr ⟨mw_17_15, (List.forall_mem_cons.mpr ⟨mw_10_13, (List.forall_mem_cons.mpr ⟨mw_10_14, (List.forall_mem_cons.mpr ⟨mw_10_15, (List.forall_mem_cons.mpr ⟨mw_10_16, (List.forall_mem_cons.mpr ⟨mw_10_21, (List.forall_mem_cons.mpr ⟨mw_10_22, (List.forall_mem_cons.mpr ⟨mw_10_23, (List.forall_mem_cons.mpr ⟨mw_11_0, (fun _ h => absurd h List.not_mem_nil)⟩)⟩)⟩)⟩)⟩)⟩)⟩)⟩)⟩)⟩)⟩)⟩)⟩)⟩)⟩)⟩)⟩)⟩)⟩)⟩)⟩)⟩)⟩)⟩)
theorem mw_17_17 : (Cond.instanceMethod yX6_queues) ∈ lw_tbl := wsL_in_r17 _ (List.mem_of_getElem? (i := 17) rfl)
theorem mw_17_16 : (Cond.methodLink RX6 108 yX6_queues) ∈ lw_tbl := wsL_in_r17 _ (List.mem_of_getElem? (i := 16) rfl)
theorem memT_wsX6_queue_r2 : ∀ w ∈ wsX6_queue_r2, w ∈ lw_tbl := by
  unfold wsX6_queue_r2
  exact (List.forall_mem_cons.mpr ⟨mw_11_1, (List.forall_mem_cons.mpr ⟨mw_11_2, (List.forall_mem_cons.mpr ⟨mw_11_3, (List.forall_mem_cons.mpr ⟨mw_11_4, (List.forall_mem_cons.mpr ⟨mw_11_5, (List.forall_mem_cons.mpr ⟨mw_11_6, (List.forall_mem_cons.mpr ⟨mw_11_7, (List.forall_mem_cons.mpr ⟨mw_11_8, (List.forall_mem_cons.mpr ⟨mw_7_4, (List.forall_mem_cons.mpr ⟨mw_7_5, (List.forall_mem_cons.mpr ⟨mw_7_6, (List.forall_mem_cons.mpr ⟨mw_7_7, (List.forall_mem_cons.mpr ⟨mw_7_8, (List.forall_mem_cons.mpr ⟨mw_7_9, (List.forall_mem_cons.mpr ⟨mw_7_10, (List.forall_mem_cons.mpr ⟨mw_7_11, (List.forall_mem_cons.mpr ⟨mw_7_12, (List.forall_mem_cons.mpr ⟨mw_7_13, (List.forall_mem_cons.mpr ⟨mw_7_14, (List.forall_mem_cons.mpr ⟨mw_7_15, (List.forall_mem_cons.mpr ⟨mw_7_16, (List.forall_mem_cons.mpr ⟨mw_7_17, (List.forall_mem_cons.mpr ⟨mw_17_16, (List.forall_mem_cons.mpr ⟨mw_17_17, (fun _ h => absurd h List.not_mem_nil)⟩)⟩)⟩)⟩)⟩)⟩)⟩)⟩)⟩)⟩)⟩)⟩)⟩)⟩)⟩)⟩)⟩)⟩)⟩)⟩)⟩)⟩)⟩)⟩)
theorem mw_17_19 : (Cond.code yX6_queues cX6_queues 4 (some .int)) ∈ lw_tbl := wsL_in_r17 _ (List.mem_of_getElem? (i := 19) rfl)
theorem mw_17_18 : (Cond.selects RX6 yX6_queues yX6_queues) ∈ lw_tbl := wsL_in_r17 _ (List.mem_of_getElem? (i := 18) rfl)
theorem memT_wsX6_queue_r3 : ∀ w ∈ wsX6_queue_r3, w ∈ lw_tbl := by
  unfold wsX6_queue_r3
  exact (List.forall_mem_cons.mpr ⟨mw_17_18, (List.forall_mem_cons.mpr ⟨mw_17_19, (fun _ h => absurd h List.not_mem_nil)⟩)⟩)
theorem memT_wsX6_queue : ∀ w ∈ wsX6_queue, w ∈ lw_tbl := by
  unfold wsX6_queue
  exact (List.forall_mem_cons.mpr ⟨mw_17_8, (List.forall_mem_append.mpr ⟨(List.forall_mem_append.mpr ⟨memT_wsX6_queue_r1, (List.forall_mem_append.mpr ⟨memT_wsX6_queue_r2, memT_wsX6_queue_r3⟩)⟩), inX6⟩)⟩)
theorem mw_17_7 : (Cond.selects RX6 yX6_queue yX6_queue) ∈ lw_tbl := wsL_in_r17 _ (List.mem_of_getElem? (i := 7) rfl)
theorem mw_17_6 : (Cond.instanceMethod yX6_queue) ∈ lw_tbl := wsL_in_r17 _ (List.mem_of_getElem? (i := 6) rfl)
theorem mw_17_5 : (Cond.methodLink RL 127 yX6_queue) ∈ lw_tbl := wsL_in_r17 _ (List.mem_of_getElem? (i := 5) rfl)
set_option maxRecDepth 20000 in
theorem gT_X6_queue : GoodIn lw_tbl (wsV RL 127 RX6 yX6_queue wsX6_queue) := goodIn_sub (by
  unfold wsV
  exact List.forall_mem_append.mpr ⟨(List.forall_mem_cons.mpr ⟨mw_17_5, (List.forall_mem_cons.mpr ⟨mw_17_6, (List.forall_mem_cons.mpr ⟨mw_17_7, (List.forall_mem_cons.mpr ⟨mw_1_5, (fun _ h => absurd h List.not_mem_nil)⟩)⟩)⟩)⟩), memT_wsX6_queue⟩) (by decide +kernel)
theorem mw_17_22 : (Cond.codeWith yL_open cL_open 4 (some .int) [(0, 9, 12, 21), (0, 9, 15, 15)]) ∈ lw_tbl := wsL_in_r17 _ (List.mem_of_getElem? (i := 22) rfl)
theorem mw_18_2 : (Cond.code yX5_open cX5_open 2 (some .int)) ∈ lw_tbl := wsL_in_r18 _ (List.mem_of_getElem? (i := 2) rfl)
theorem mw_18_1 : (Cond.selects RX5 yX5_open yX5_open) ∈ lw_tbl := wsL_in_r18 _ (List.mem_of_getElem? (i := 1) rfl)
theorem mw_18_0 : (Cond.instanceMethod yX5_open) ∈ lw_tbl := wsL_in_r18 _ (List.mem_of_getElem? (i := 0) rfl)
theorem mw_17_23 : (Cond.methodLink RL 42 yX5_open) ∈ lw_tbl := wsL_in_r17 _ (List.mem_of_getElem? (i := 23) rfl)
theorem memT_wsL_open_r1 : ∀ w ∈ wsL_open_r1, w ∈ lw_tbl := by
  unfold wsL_open_r1
  exact (List.forall_mem_cons.mpr ⟨mw_8_5, (List.forall_mem_cons.mpr ⟨mw_4_17, (List.forall_mem_cons.mpr ⟨mw_17_23, (List.forall_mem_cons.mpr ⟨mw_18_0, (List.forall_mem_cons.mpr ⟨mw_18_1, (List.forall_mem_cons.mpr ⟨mw_1_2, (List.forall_mem_cons.mpr ⟨mw_18_2, (List.forall_mem_cons.mpr ⟨mw_1_16, (List.forall_mem_cons.mpr ⟨mw_1_21, (List.forall_mem_cons.mpr ⟨mw_16_17, (List.forall_mem_cons.mpr ⟨mw_16_18, (List.forall_mem_cons.mpr ⟨mw_16_19, (List.forall_mem_cons.mpr ⟨mw_4_22, (List.forall_mem_cons.mpr ⟨mw_4_23, (List.forall_mem_cons.mpr ⟨mw_5_0, (List.forall_mem_cons.mpr ⟨mw_16_20, (List.forall_mem_cons.mpr ⟨mw_16_21, (List.forall_mem_cons.mpr ⟨mw_16_22, (List.forall_mem_cons.mpr ⟨mw_8_14, (List.forall_mem_cons.mpr ⟨mw_8_15, (List.forall_mem_cons.mpr ⟨mw_12_18, (List.forall_mem_cons.mpr ⟨mw_9_1, (List.forall_mem_cons.mpr ⟨mw_9_2, (List.forall_mem_cons.mpr ⟨mw_5_6, (fun _ h => absurd h List.not_mem_nil)⟩)⟩)⟩)⟩)⟩)⟩)⟩)⟩)⟩)⟩)⟩)⟩)⟩)⟩)⟩)⟩)⟩)⟩)⟩)⟩)⟩)⟩)⟩)⟩)
theorem memT_wsL_open_r2 : ∀ w ∈ wsL_open_r2, w ∈ lw_tbl := by
  unfold wsL_open_r2
  exact (List.forall_mem_cons.mpr ⟨mw_5_7, (List.forall_mem_cons.mpr ⟨mw_5_8, (List.forall_mem_cons.mpr ⟨mw_5_9, (List.forall_mem_cons.mpr ⟨mw_5_10, (List.forall_mem_cons.mpr ⟨mw_5_11, (List.forall_mem_cons.mpr ⟨mw_1_20, (List.forall_mem_cons.mpr ⟨mw_5_12, (List.forall_mem_cons.mpr ⟨mw_5_13, (List.forall_mem_cons.mpr ⟨mw_5_14, (List.forall_mem_cons.mpr ⟨mw_5_15, (List.forall_mem_cons.mpr ⟨mw_5_16, (List.forall_mem_cons.mpr ⟨mw_5_17, (List.forall_mem_cons.mpr ⟨mw_5_18, (List.forall_mem_cons.mpr ⟨mw_5_19, (List.forall_mem_cons.mpr ⟨mw_4_0, (List.forall_mem_cons.mpr ⟨mw_5_20, (List.forall_mem_cons.mpr ⟨mw_1_15, (List.forall_mem_cons.mpr ⟨mw_5_21, (List.forall_mem_cons.mpr ⟨mw_5_22, (List.forall_mem_cons.mpr ⟨mw_2_9, (List.forall_mem_cons.mpr ⟨mw_2_13, (List.forall_mem_cons.mpr ⟨mw_2_15, (List.forall_mem_cons.mpr ⟨mw_5_23, (List.forall_mem_cons.mpr ⟨mw_6_0, (fun _ h => absurd h List.not_mem_nil)⟩)⟩)⟩)⟩)⟩)⟩)⟩)⟩)⟩)⟩)⟩)⟩)⟩)⟩)⟩)⟩)⟩)⟩)⟩)⟩)⟩)⟩)⟩)⟩)
theorem memT_wsL_open_r3 : ∀ w ∈ wsL_open_r3, w ∈ lw_tbl := by
  unfold wsL_open_r3
  exact (List.forall_mem_cons.mpr ⟨mw_6_1, (List.forall_mem_cons.mpr ⟨mw_6_2, (List.forall_mem_cons.mpr ⟨mw_6_3, (List.forall_mem_cons.mpr ⟨mw_6_4, (List.forall_mem_cons.mpr ⟨mw_6_5, (List.forall_mem_cons.mpr ⟨mw_2_16, (List.forall_mem_cons.mpr ⟨mw_2_17, (List.forall_mem_cons.mpr ⟨mw_6_6, (List.forall_mem_cons.mpr ⟨mw_2_8, (List.forall_mem_cons.mpr ⟨mw_6_7, (List.forall_mem_cons.mpr ⟨mw_6_8, (List.forall_mem_cons.mpr ⟨mw_2_21, (List.forall_mem_cons.mpr ⟨mw_2_22, (List.forall_mem_cons.mpr ⟨mw_2_23, (List.forall_mem_cons.mpr ⟨mw_3_0, (List.forall_mem_cons.mpr ⟨mw_3_1, (List.forall_mem_cons.mpr ⟨mw_3_2, (List.forall_mem_cons.mpr ⟨mw_3_3, (List.forall_mem_cons.mpr ⟨mw_3_4, (List.forall_mem_cons.mpr ⟨mw_6_9, (List.forall_mem_cons.mpr ⟨mw_3_10, (List.forall_mem_cons.mpr ⟨mw_3_11, (List.forall_mem_cons.mpr ⟨mw_3_12, (List.forall_mem_cons.mpr ⟨mw_3_13, (fun _ h => absurd h List.not_mem_nil)⟩)⟩)⟩)⟩)⟩)⟩)⟩)⟩)⟩)⟩)⟩)⟩)⟩)⟩)⟩)⟩)⟩)⟩)⟩)⟩)⟩)⟩)⟩)⟩)
theorem mw_18_12 : (Cond.code yX3_standingAt cX3_standingAt 3 (some .int)) ∈ lw_tbl := wsL_in_r18 _ (List.mem_of_getElem? (i := 12) rfl)
theorem mw_18_11 : (Cond.selects RX3 yX3_standingAt yX3_standingAt) ∈ lw_tbl := wsL_in_r18 _ (List.mem_of_getElem? (i := 11) rfl)
theorem mw_18_10 : (Cond.instanceMethod yX3_standingAt) ∈ lw_tbl := wsL_in_r18 _ (List.mem_of_getElem? (i := 10) rfl)
theorem mw_18_9 : (Cond.methodLink RX3 26 yX3_standingAt) ∈ lw_tbl := wsL_in_r18 _ (List.mem_of_getElem? (i := 9) rfl)
theorem mw_18_8 : (Cond.code yX3_takeFirst cX3_takeFirst 5 (some .int)) ∈ lw_tbl := wsL_in_r18 _ (List.mem_of_getElem? (i := 8) rfl)
theorem mw_18_7 : (Cond.selects RX3 yX3_takeFirst yX3_takeFirst) ∈ lw_tbl := wsL_in_r18 _ (List.mem_of_getElem? (i := 7) rfl)
theorem mw_18_6 : (Cond.instanceMethod yX3_takeFirst) ∈ lw_tbl := wsL_in_r18 _ (List.mem_of_getElem? (i := 6) rfl)
theorem mw_18_5 : (Cond.code yX0_openOnce cX0_openOnce 7 (some .int)) ∈ lw_tbl := wsL_in_r18 _ (List.mem_of_getElem? (i := 5) rfl)
theorem mw_18_4 : (Cond.selects RX0 yX0_openOnce yX0_openOnce) ∈ lw_tbl := wsL_in_r18 _ (List.mem_of_getElem? (i := 4) rfl)
theorem mw_18_3 : (Cond.instanceMethod yX0_openOnce) ∈ lw_tbl := wsL_in_r18 _ (List.mem_of_getElem? (i := 3) rfl)
theorem memT_wsL_open_r4 : ∀ w ∈ wsL_open_r4, w ∈ lw_tbl := by
  unfold wsL_open_r4
  exact (List.forall_mem_cons.mpr ⟨mw_3_14, (List.forall_mem_cons.mpr ⟨mw_3_15, (List.forall_mem_cons.mpr ⟨mw_3_16, (List.forall_mem_cons.mpr ⟨mw_3_17, (List.forall_mem_cons.mpr ⟨mw_3_18, (List.forall_mem_cons.mpr ⟨mw_3_19, (List.forall_mem_cons.mpr ⟨mw_6_10, (List.forall_mem_cons.mpr ⟨mw_2_12, (List.forall_mem_cons.mpr ⟨mw_6_11, (List.forall_mem_cons.mpr ⟨mw_6_12, (List.forall_mem_cons.mpr ⟨mw_3_8, (List.forall_mem_cons.mpr ⟨mw_3_9, (List.forall_mem_cons.mpr ⟨mw_18_3, (List.forall_mem_cons.mpr ⟨mw_18_4, (List.forall_mem_cons.mpr ⟨mw_18_5, (List.forall_mem_cons.mpr ⟨mw_18_6, (List.forall_mem_cons.mpr ⟨mw_18_7, (List.forall_mem_cons.mpr ⟨mw_18_8, (List.forall_mem_cons.mpr ⟨mw_18_9, (List.forall_mem_cons.mpr ⟨mw_18_10, (List.forall_mem_cons.mpr ⟨mw_18_11, (List.forall_mem_cons.mpr ⟨mw_18_12, (List.forall_mem_cons.mpr ⟨mw_6_19, (List.forall_mem_cons.mpr ⟨mw_6_20, (fun _ h => absurd h List.not_mem_nil)⟩)⟩)⟩)⟩)⟩)⟩)⟩)⟩)⟩)⟩)⟩)⟩)⟩)⟩)⟩)⟩)⟩)⟩)⟩)⟩)⟩)⟩)⟩)⟩)
theorem mw_19_5 : (Cond.selects RX0 yX0_allowedElls yX0_allowedElls) ∈ lw_tbl := wsL_in_r19 _ (List.mem_of_getElem? (i := 5) rfl)
theorem mw_19_4 : (Cond.instanceMethod yX0_allowedElls) ∈ lw_tbl := wsL_in_r19 _ (List.mem_of_getElem? (i := 4) rfl)
theorem mw_19_3 : (Cond.methodLink RX0 118 yX0_allowedElls) ∈ lw_tbl := wsL_in_r19 _ (List.mem_of_getElem? (i := 3) rfl)
theorem mw_19_2 : (Cond.code yX1_wornLace cX1_wornLace 3 (some .int)) ∈ lw_tbl := wsL_in_r19 _ (List.mem_of_getElem? (i := 2) rfl)
theorem mw_19_1 : (Cond.selects RX1 yX1_wornLace yX1_wornLace) ∈ lw_tbl := wsL_in_r19 _ (List.mem_of_getElem? (i := 1) rfl)
theorem mw_19_0 : (Cond.instanceMethod yX1_wornLace) ∈ lw_tbl := wsL_in_r19 _ (List.mem_of_getElem? (i := 0) rfl)
theorem mw_18_23 : (Cond.code yX0_passesMasked cX0_passesMasked 2 (some .boolean)) ∈ lw_tbl := wsL_in_r18 _ (List.mem_of_getElem? (i := 23) rfl)
theorem mw_18_22 : (Cond.selects RX0 yX0_passesMasked yX0_passesMasked) ∈ lw_tbl := wsL_in_r18 _ (List.mem_of_getElem? (i := 22) rfl)
theorem mw_18_21 : (Cond.instanceMethod yX0_passesMasked) ∈ lw_tbl := wsL_in_r18 _ (List.mem_of_getElem? (i := 21) rfl)
theorem mw_18_20 : (Cond.methodLink RX0 106 yX0_passesMasked) ∈ lw_tbl := wsL_in_r18 _ (List.mem_of_getElem? (i := 20) rfl)
theorem mw_18_19 : (Cond.code Lib.Math.max.name Lib.Math.max.code 2 (some .int)) ∈ lw_tbl := wsL_in_r18 _ (List.mem_of_getElem? (i := 19) rfl)
theorem mw_18_18 : (Cond.static Lib.Math.max.name) ∈ lw_tbl := wsL_in_r18 _ (List.mem_of_getElem? (i := 18) rfl)
theorem mw_18_17 : (Cond.methodLink RX0 103 Lib.Math.max.name) ∈ lw_tbl := wsL_in_r18 _ (List.mem_of_getElem? (i := 17) rfl)
theorem mw_18_16 : (Cond.code yX0_ellsTooMuch cX0_ellsTooMuch 3 (some .int)) ∈ lw_tbl := wsL_in_r18 _ (List.mem_of_getElem? (i := 16) rfl)
theorem mw_18_15 : (Cond.selects RX0 yX0_ellsTooMuch yX0_ellsTooMuch) ∈ lw_tbl := wsL_in_r18 _ (List.mem_of_getElem? (i := 15) rfl)
theorem mw_18_14 : (Cond.instanceMethod yX0_ellsTooMuch) ∈ lw_tbl := wsL_in_r18 _ (List.mem_of_getElem? (i := 14) rfl)
theorem mw_18_13 : (Cond.methodLink RX0 124 yX0_ellsTooMuch) ∈ lw_tbl := wsL_in_r18 _ (List.mem_of_getElem? (i := 13) rfl)
theorem memT_wsL_open_r5 : ∀ w ∈ wsL_open_r5, w ∈ lw_tbl := by
  unfold wsL_open_r5
  exact (List.forall_mem_cons.mpr ⟨mw_8_16, (List.forall_mem_cons.mpr ⟨mw_8_17, (List.forall_mem_cons.mpr ⟨mw_8_18, (List.forall_mem_cons.mpr ⟨mw_18_13, (List.forall_mem_cons.mpr ⟨mw_18_14, (List.forall_mem_cons.mpr ⟨mw_18_15, (List.forall_mem_cons.mpr ⟨mw_18_16, (List.forall_mem_cons.mpr ⟨mw_18_17, (List.forall_mem_cons.mpr ⟨mw_18_18, (List.forall_mem_cons.mpr ⟨mw_18_19, (List.forall_mem_cons.mpr ⟨mw_18_20, (List.forall_mem_cons.mpr ⟨mw_18_21, (List.forall_mem_cons.mpr ⟨mw_18_22, (List.forall_mem_cons.mpr ⟨mw_18_23, (List.forall_mem_cons.mpr ⟨mw_8_22, (List.forall_mem_cons.mpr ⟨mw_8_23, (List.forall_mem_cons.mpr ⟨mw_9_0, (List.forall_mem_cons.mpr ⟨mw_19_0, (List.forall_mem_cons.mpr ⟨mw_19_1, (List.forall_mem_cons.mpr ⟨mw_19_2, (List.forall_mem_cons.mpr ⟨mw_12_13, (List.forall_mem_cons.mpr ⟨mw_19_3, (List.forall_mem_cons.mpr ⟨mw_19_4, (List.forall_mem_cons.mpr ⟨mw_19_5, (fun _ h => absurd h List.not_mem_nil)⟩)⟩)⟩)⟩)⟩)⟩)⟩)⟩)⟩)⟩)⟩)⟩)⟩)⟩)⟩)⟩)⟩)⟩)⟩)⟩)⟩)⟩)⟩)⟩)
theorem mw_19_22 : (Cond.code yX0_cutLace cX0_cutLace 3 none) ∈ lw_tbl := wsL_in_r19 _ (List.mem_of_getElem? (i := 22) rfl)
theorem mw_19_21 : (Cond.selects RX0 yX0_cutLace yX0_cutLace) ∈ lw_tbl := wsL_in_r19 _ (List.mem_of_getElem? (i := 21) rfl)
theorem mw_19_20 : (Cond.instanceMethod yX0_cutLace) ∈ lw_tbl := wsL_in_r19 _ (List.mem_of_getElem? (i := 20) rfl)
theorem mw_19_19 : (Cond.methodLink RX0 142 yX0_cutLace) ∈ lw_tbl := wsL_in_r19 _ (List.mem_of_getElem? (i := 19) rfl)
theorem mw_19_18 : (Cond.code yX0_paidByGuest cX0_paidByGuest 3 (some .int)) ∈ lw_tbl := wsL_in_r19 _ (List.mem_of_getElem? (i := 18) rfl)
theorem mw_19_17 : (Cond.selects RX0 yX0_paidByGuest yX0_paidByGuest) ∈ lw_tbl := wsL_in_r19 _ (List.mem_of_getElem? (i := 17) rfl)
theorem mw_19_16 : (Cond.instanceMethod yX0_paidByGuest) ∈ lw_tbl := wsL_in_r19 _ (List.mem_of_getElem? (i := 16) rfl)
theorem mw_19_15 : (Cond.methodLink RX0 130 yX0_paidByGuest) ∈ lw_tbl := wsL_in_r19 _ (List.mem_of_getElem? (i := 15) rfl)
theorem mw_19_14 : (Cond.code yX0_paidByLender cX0_paidByLender 4 (some .int)) ∈ lw_tbl := wsL_in_r19 _ (List.mem_of_getElem? (i := 14) rfl)
theorem mw_19_13 : (Cond.selects RX0 yX0_paidByLender yX0_paidByLender) ∈ lw_tbl := wsL_in_r19 _ (List.mem_of_getElem? (i := 13) rfl)
theorem mw_19_12 : (Cond.instanceMethod yX0_paidByLender) ∈ lw_tbl := wsL_in_r19 _ (List.mem_of_getElem? (i := 12) rfl)
theorem mw_19_11 : (Cond.methodLink RX0 133 yX0_paidByLender) ∈ lw_tbl := wsL_in_r19 _ (List.mem_of_getElem? (i := 11) rfl)
theorem mw_19_10 : (Cond.code yX0_leftOfFine cX0_leftOfFine 3 (some .int)) ∈ lw_tbl := wsL_in_r19 _ (List.mem_of_getElem? (i := 10) rfl)
theorem mw_19_9 : (Cond.selects RX0 yX0_leftOfFine yX0_leftOfFine) ∈ lw_tbl := wsL_in_r19 _ (List.mem_of_getElem? (i := 9) rfl)
theorem mw_19_8 : (Cond.instanceMethod yX0_leftOfFine) ∈ lw_tbl := wsL_in_r19 _ (List.mem_of_getElem? (i := 8) rfl)
theorem mw_19_7 : (Cond.methodLink RX0 127 yX0_leftOfFine) ∈ lw_tbl := wsL_in_r19 _ (List.mem_of_getElem? (i := 7) rfl)
theorem mw_19_6 : (Cond.code yX0_allowedElls cX0_allowedElls 5 (some .int)) ∈ lw_tbl := wsL_in_r19 _ (List.mem_of_getElem? (i := 6) rfl)
theorem memT_wsL_open_r6 : ∀ w ∈ wsL_open_r6, w ∈ lw_tbl := by
  unfold wsL_open_r6
  exact (List.forall_mem_cons.mpr ⟨mw_19_6, (List.forall_mem_cons.mpr ⟨mw_19_7, (List.forall_mem_cons.mpr ⟨mw_19_8, (List.forall_mem_cons.mpr ⟨mw_19_9, (List.forall_mem_cons.mpr ⟨mw_19_10, (List.forall_mem_cons.mpr ⟨mw_19_11, (List.forall_mem_cons.mpr ⟨mw_19_12, (List.forall_mem_cons.mpr ⟨mw_19_13, (List.forall_mem_cons.mpr ⟨mw_19_14, (List.forall_mem_cons.mpr ⟨mw_11_19, (List.forall_mem_cons.mpr ⟨mw_19_15, (List.forall_mem_cons.mpr ⟨mw_19_16, (List.forall_mem_cons.mpr ⟨mw_19_17, (List.forall_mem_cons.mpr ⟨mw_19_18, (List.forall_mem_cons.mpr ⟨mw_14_21, (List.forall_mem_cons.mpr ⟨mw_14_22, (List.forall_mem_cons.mpr ⟨mw_14_23, (List.forall_mem_cons.mpr ⟨mw_19_19, (List.forall_mem_cons.mpr ⟨mw_19_20, (List.forall_mem_cons.mpr ⟨mw_19_21, (List.forall_mem_cons.mpr ⟨mw_19_22, (fun _ h => absurd h List.not_mem_nil)⟩)⟩)⟩)⟩)⟩)⟩)⟩)⟩)⟩)⟩)⟩)⟩)⟩)⟩)⟩)⟩)⟩)⟩)⟩)⟩)⟩)
theorem memT_wsL_open : ∀ w ∈ wsL_open, w ∈ lw_tbl := by
  unfold wsL_open
  exact (List.forall_mem_cons.mpr ⟨mw_17_22, (List.forall_mem_append.mpr ⟨(List.forall_mem_append.mpr ⟨(List.forall_mem_append.mpr ⟨(List.forall_mem_append.mpr ⟨(List.forall_mem_append.mpr ⟨(List.forall_mem_append.mpr ⟨(List.forall_mem_append.mpr ⟨(List.forall_mem_append.mpr ⟨memT_wsL_open_r1, (List.forall_mem_append.mpr ⟨memT_wsL_open_r2, (List.forall_mem_append.mpr ⟨memT_wsL_open_r3, (List.forall_mem_append.mpr ⟨memT_wsL_open_r4, (List.forall_mem_append.mpr ⟨memT_wsL_open_r5, memT_wsL_open_r6⟩)⟩)⟩)⟩)⟩), inX5⟩), inX0⟩), inX3⟩), inX2⟩), inX1⟩), wsL_law__x2⟩), wsL_law__x1⟩)⟩)
theorem mw_17_21 : (Cond.static yL_open) ∈ lw_tbl := wsL_in_r17 _ (List.mem_of_getElem? (i := 21) rfl)
theorem mw_17_20 : (Cond.methodLink RL 128 yL_open) ∈ lw_tbl := wsL_in_r17 _ (List.mem_of_getElem? (i := 20) rfl)
set_option maxRecDepth 20000 in
theorem gT_L_open : GoodIn lw_tbl (va_wsS RL 128 yL_open wsL_open) := goodIn_sub (by
  unfold va_wsS
  exact List.forall_mem_append.mpr ⟨(List.forall_mem_cons.mpr ⟨mw_17_20, (List.forall_mem_cons.mpr ⟨mw_17_21, (List.forall_mem_cons.mpr ⟨mw_4_14, (fun _ h => absurd h List.not_mem_nil)⟩)⟩)⟩), memT_wsL_open⟩) (by decide +kernel)
theorem mw_20_2 : (Cond.code yX6_open cX6_open 3 (some .int)) ∈ lw_tbl := wsL_in_r20 _ (List.mem_of_getElem? (i := 2) rfl)
theorem memT_wsX6_open_r1 : ∀ w ∈ wsX6_open_r1, w ∈ lw_tbl := by
  unfold wsX6_open_r1
  exact (List.forall_mem_cons.mpr ⟨mw_17_9, (List.forall_mem_cons.mpr ⟨mw_17_10, (List.forall_mem_cons.mpr ⟨mw_1_5, (List.forall_mem_cons.mpr ⟨mw_17_11, (List.forall_mem_cons.mpr ⟨mw_7_1, (List.forall_mem_cons.mpr ⟨mw_7_2, (List.forall_mem_cons.mpr ⟨mw_7_3, (List.forall_mem_cons.mpr ⟨mw_11_1, (List.forall_mem_cons.mpr ⟨mw_11_2, (List.forall_mem_cons.mpr ⟨mw_11_3, (List.forall_mem_cons.mpr ⟨mw_11_4, (List.forall_mem_cons.mpr ⟨mw_4_9, (List.forall_mem_cons.mpr ⟨mw_7_4, (List.forall_mem_cons.mpr ⟨mw_7_5, (List.forall_mem_cons.mpr ⟨mw_7_6, (List.forall_mem_cons.mpr ⟨mw_7_7, (List.forall_mem_cons.mpr ⟨mw_7_8, (List.forall_mem_cons.mpr ⟨mw_7_9, (List.forall_mem_cons.mpr ⟨mw_7_10, (List.forall_mem_cons.mpr ⟨mw_7_11, (List.forall_mem_cons.mpr ⟨mw_7_12, (List.forall_mem_cons.mpr ⟨mw_7_13, (List.forall_mem_cons.mpr ⟨mw_7_14, (List.forall_mem_cons.mpr ⟨mw_7_15, (fun _ h => absurd h List.not_mem_nil)⟩)⟩)⟩)⟩)⟩)⟩)⟩)⟩)⟩)⟩)⟩)⟩)⟩)⟩)⟩)⟩)⟩)⟩)⟩)⟩)⟩)⟩)⟩)⟩)
theorem mw_20_18 : (Cond.code yX6_allowed cX6_allowed 5 (some .int)) ∈ lw_tbl := wsL_in_r20 _ (List.mem_of_getElem? (i := 18) rfl)
theorem mw_20_17 : (Cond.selects RX6 yX6_allowed yX6_allowed) ∈ lw_tbl := wsL_in_r20 _ (List.mem_of_getElem? (i := 17) rfl)
theorem mw_20_16 : (Cond.instanceMethod yX6_allowed) ∈ lw_tbl := wsL_in_r20 _ (List.mem_of_getElem? (i := 16) rfl)
theorem mw_20_15 : (Cond.methodLink RX6 59 yX6_allowed) ∈ lw_tbl := wsL_in_r20 _ (List.mem_of_getElem? (i := 15) rfl)
theorem mw_20_14 : (Cond.code yX6_worn cX6_worn 3 (some .int)) ∈ lw_tbl := wsL_in_r20 _ (List.mem_of_getElem? (i := 14) rfl)
theorem mw_20_13 : (Cond.selects RX6 yX6_worn yX6_worn) ∈ lw_tbl := wsL_in_r20 _ (List.mem_of_getElem? (i := 13) rfl)
theorem mw_20_12 : (Cond.instanceMethod yX6_worn) ∈ lw_tbl := wsL_in_r20 _ (List.mem_of_getElem? (i := 12) rfl)
theorem mw_20_11 : (Cond.methodLink RX6 56 yX6_worn) ∈ lw_tbl := wsL_in_r20 _ (List.mem_of_getElem? (i := 11) rfl)
theorem mw_20_10 : (Cond.code yX6_judges cX6_judges 12 none) ∈ lw_tbl := wsL_in_r20 _ (List.mem_of_getElem? (i := 10) rfl)
theorem mw_20_9 : (Cond.selects RX6 yX6_judges yX6_judges) ∈ lw_tbl := wsL_in_r20 _ (List.mem_of_getElem? (i := 9) rfl)
theorem mw_20_8 : (Cond.instanceMethod yX6_judges) ∈ lw_tbl := wsL_in_r20 _ (List.mem_of_getElem? (i := 8) rfl)
theorem mw_20_7 : (Cond.methodLink RX6 63 yX6_judges) ∈ lw_tbl := wsL_in_r20 _ (List.mem_of_getElem? (i := 7) rfl)
theorem mw_20_6 : (Cond.code yX6_opens cX6_opens 5 (some .int)) ∈ lw_tbl := wsL_in_r20 _ (List.mem_of_getElem? (i := 6) rfl)
theorem mw_20_5 : (Cond.selects RX6 yX6_opens yX6_opens) ∈ lw_tbl := wsL_in_r20 _ (List.mem_of_getElem? (i := 5) rfl)
theorem mw_20_4 : (Cond.instanceMethod yX6_opens) ∈ lw_tbl := wsL_in_r20 _ (List.mem_of_getElem? (i := 4) rfl)
theorem mw_20_3 : (Cond.methodLink RX6 111 yX6_opens) ∈ lw_tbl := wsL_in_r20 _ (List.mem_of_getElem? (i := 3) rfl)
theorem memT_wsX6_open_r2 : ∀ w ∈ wsX6_open_r2, w ∈ lw_tbl := by
  unfold wsX6_open_r2
  exact (List.forall_mem_cons.mpr ⟨mw_7_16, (List.forall_mem_cons.mpr ⟨mw_7_17, (List.forall_mem_cons.mpr ⟨mw_20_3, (List.forall_mem_cons.mpr ⟨mw_20_4, (List.forall_mem_cons.mpr ⟨mw_20_5, (List.forall_mem_cons.mpr ⟨mw_20_6, (List.forall_mem_cons.mpr ⟨mw_4_11, (List.forall_mem_cons.mpr ⟨mw_20_7, (List.forall_mem_cons.mpr ⟨mw_20_8, (List.forall_mem_cons.mpr ⟨mw_20_9, (List.forall_mem_cons.mpr ⟨mw_20_10, (List.forall_mem_cons.mpr ⟨mw_10_13, (List.forall_mem_cons.mpr ⟨mw_10_14, (List.forall_mem_cons.mpr ⟨mw_10_15, (List.forall_mem_cons.mpr ⟨mw_10_16, (List.forall_mem_cons.mpr ⟨mw_20_11, (List.forall_mem_cons.mpr ⟨mw_20_12, (List.forall_mem_cons.mpr ⟨mw_20_13, (List.forall_mem_cons.mpr ⟨mw_20_14, (List.forall_mem_cons.mpr ⟨mw_20_15, (List.forall_mem_cons.mpr ⟨mw_20_16, (List.forall_mem_cons.mpr ⟨mw_20_17, (List.forall_mem_cons.mpr ⟨mw_20_18, (List.forall_mem_cons.mpr ⟨mw_12_0, (fun _ h => absurd h List.not_mem_nil)⟩)⟩)⟩)⟩)⟩)⟩)⟩)⟩)⟩)⟩)⟩)⟩)⟩)⟩)⟩)⟩)⟩)⟩)⟩)⟩)⟩)⟩)⟩)⟩)
theorem memT_wsX6_open_r3 : ∀ w ∈ wsX6_open_r3, w ∈ lw_tbl := by
  unfold wsX6_open_r3
  exact (List.forall_mem_cons.mpr ⟨mw_12_1, (List.forall_mem_cons.mpr ⟨mw_12_2, (List.forall_mem_cons.mpr ⟨mw_13_3, (List.forall_mem_cons.mpr ⟨mw_13_4, (List.forall_mem_cons.mpr ⟨mw_13_5, (List.forall_mem_cons.mpr ⟨mw_13_6, (List.forall_mem_cons.mpr ⟨mw_15_12, (List.forall_mem_cons.mpr ⟨mw_15_13, (List.forall_mem_cons.mpr ⟨mw_15_14, (List.forall_mem_cons.mpr ⟨mw_15_15, (List.forall_mem_cons.mpr ⟨mw_7_18, (List.forall_mem_cons.mpr ⟨mw_7_19, (List.forall_mem_cons.mpr ⟨mw_7_20, (List.forall_mem_cons.mpr ⟨mw_7_21, (fun _ h => absurd h List.not_mem_nil)⟩)⟩)⟩)⟩)⟩)⟩)⟩)⟩)⟩)⟩)⟩)⟩)⟩)⟩)
theorem memT_wsX6_open : ∀ w ∈ wsX6_open, w ∈ lw_tbl := by
  unfold wsX6_open
  exact (List.forall_mem_cons.mpr ⟨mw_20_2, (List.forall_mem_append.mpr ⟨(List.forall_mem_append.mpr ⟨memT_wsX6_open_r1, (List.forall_mem_append.mpr ⟨memT_wsX6_open_r2, memT_wsX6_open_r3⟩)⟩), inX6⟩)⟩)
theorem mw_20_1 : (Cond.selects RX6 yX6_open yX6_open) ∈ lw_tbl := wsL_in_r20 _ (List.mem_of_getElem? (i := 1) rfl)
theorem mw_20_0 : (Cond.instanceMethod yX6_open) ∈ lw_tbl := wsL_in_r20 _ (List.mem_of_getElem? (i := 0) rfl)
theorem mw_19_23 : (Cond.methodLink RL 130 yX6_open) ∈ lw_tbl := wsL_in_r19 _ (List.mem_of_getElem? (i := 23) rfl)
set_option maxRecDepth 20000 in
theorem gT_X6_open : GoodIn lw_tbl (wsV RL 130 RX6 yX6_open wsX6_open) := goodIn_sub (by
  unfold wsV
  exact List.forall_mem_append.mpr ⟨(List.forall_mem_cons.mpr ⟨mw_19_23, (List.forall_mem_cons.mpr ⟨mw_20_0, (List.forall_mem_cons.mpr ⟨mw_20_1, (List.forall_mem_cons.mpr ⟨mw_1_5, (fun _ h => absurd h List.not_mem_nil)⟩)⟩)⟩)⟩), memT_wsX6_open⟩) (by decide +kernel)
theorem mw_20_22 : (Cond.code yX5_night cX5_night 1 (some .int)) ∈ lw_tbl := wsL_in_r20 _ (List.mem_of_getElem? (i := 22) rfl)
theorem memT_wsX5_night_r1 : ∀ w ∈ wsX5_night_r1, w ∈ lw_tbl := by
  unfold wsX5_night_r1
  exact (List.forall_mem_cons.mpr ⟨mw_1_21, (List.forall_mem_cons.mpr ⟨mw_1_16, (List.forall_mem_cons.mpr ⟨mw_5_11, (List.forall_mem_cons.mpr ⟨mw_1_20, (List.forall_mem_cons.mpr ⟨mw_5_12, (List.forall_mem_cons.mpr ⟨mw_5_13, (List.forall_mem_cons.mpr ⟨mw_5_14, (List.forall_mem_cons.mpr ⟨mw_5_15, (List.forall_mem_cons.mpr ⟨mw_5_16, (List.forall_mem_cons.mpr ⟨mw_5_17, (List.forall_mem_cons.mpr ⟨mw_5_18, (List.forall_mem_cons.mpr ⟨mw_5_19, (List.forall_mem_cons.mpr ⟨mw_4_0, (List.forall_mem_cons.mpr ⟨mw_5_20, (List.forall_mem_cons.mpr ⟨mw_1_15, (List.forall_mem_cons.mpr ⟨mw_5_21, (List.forall_mem_cons.mpr ⟨mw_5_22, (List.forall_mem_cons.mpr ⟨mw_2_9, (List.forall_mem_cons.mpr ⟨mw_2_13, (List.forall_mem_cons.mpr ⟨mw_2_15, (List.forall_mem_cons.mpr ⟨mw_5_23, (List.forall_mem_cons.mpr ⟨mw_6_0, (List.forall_mem_cons.mpr ⟨mw_6_1, (List.forall_mem_cons.mpr ⟨mw_6_2, (fun _ h => absurd h List.not_mem_nil)⟩)⟩)⟩)⟩)⟩)⟩)⟩)⟩)⟩)⟩)⟩)⟩)⟩)⟩)⟩)⟩)⟩)⟩)⟩)⟩)⟩)⟩)⟩)⟩)
theorem memT_wsX5_night_r2 : ∀ w ∈ wsX5_night_r2, w ∈ lw_tbl := by
  unfold wsX5_night_r2
  exact (List.forall_mem_cons.mpr ⟨mw_6_3, (List.forall_mem_cons.mpr ⟨mw_6_4, (List.forall_mem_cons.mpr ⟨mw_6_5, (List.forall_mem_cons.mpr ⟨mw_2_16, (List.forall_mem_cons.mpr ⟨mw_2_17, (List.forall_mem_cons.mpr ⟨mw_6_6, (List.forall_mem_cons.mpr ⟨mw_2_8, (List.forall_mem_cons.mpr ⟨mw_6_7, (List.forall_mem_cons.mpr ⟨mw_6_8, (List.forall_mem_cons.mpr ⟨mw_2_21, (List.forall_mem_cons.mpr ⟨mw_2_22, (List.forall_mem_cons.mpr ⟨mw_2_23, (List.forall_mem_cons.mpr ⟨mw_3_0, (List.forall_mem_cons.mpr ⟨mw_3_1, (List.forall_mem_cons.mpr ⟨mw_3_2, (List.forall_mem_cons.mpr ⟨mw_3_3, (List.forall_mem_cons.mpr ⟨mw_3_4, (List.forall_mem_cons.mpr ⟨mw_6_9, (List.forall_mem_cons.mpr ⟨mw_3_10, (List.forall_mem_cons.mpr ⟨mw_1_2, (List.forall_mem_cons.mpr ⟨mw_3_11, (List.forall_mem_cons.mpr ⟨mw_3_12, (List.forall_mem_cons.mpr ⟨mw_3_13, (List.forall_mem_cons.mpr ⟨mw_3_14, (fun _ h => absurd h List.not_mem_nil)⟩)⟩)⟩)⟩)⟩)⟩)⟩)⟩)⟩)⟩)⟩)⟩)⟩)⟩)⟩)⟩)⟩)⟩)⟩)⟩)⟩)⟩)⟩)⟩)
theorem mw_21_7 : (Cond.methodLink RX1 64 Lib.Math.max.name) ∈ lw_tbl := wsL_in_r21 _ (List.mem_of_getElem? (i := 7) rfl)
theorem mw_21_6 : (Cond.code yX1_passNight cX1_passNight 2 none) ∈ lw_tbl := wsL_in_r21 _ (List.mem_of_getElem? (i := 6) rfl)
theorem mw_21_5 : (Cond.selects RX1 yX1_passNight yX1_passNight) ∈ lw_tbl := wsL_in_r21 _ (List.mem_of_getElem? (i := 5) rfl)
theorem mw_21_4 : (Cond.instanceMethod yX1_passNight) ∈ lw_tbl := wsL_in_r21 _ (List.mem_of_getElem? (i := 4) rfl)
theorem mw_21_3 : (Cond.code yX5_sumOf cX5_sumOf 4 (some .int)) ∈ lw_tbl := wsL_in_r21 _ (List.mem_of_getElem? (i := 3) rfl)
theorem mw_21_2 : (Cond.static yX5_sumOf) ∈ lw_tbl := wsL_in_r21 _ (List.mem_of_getElem? (i := 2) rfl)
theorem mw_21_1 : (Cond.code yX0_endNight cX0_endNight 2 (some .int)) ∈ lw_tbl := wsL_in_r21 _ (List.mem_of_getElem? (i := 1) rfl)
theorem mw_21_0 : (Cond.selects RX0 yX0_endNight yX0_endNight) ∈ lw_tbl := wsL_in_r21 _ (List.mem_of_getElem? (i := 0) rfl)
theorem mw_20_23 : (Cond.instanceMethod yX0_endNight) ∈ lw_tbl := wsL_in_r20 _ (List.mem_of_getElem? (i := 23) rfl)
theorem memT_wsX5_night_r3 : ∀ w ∈ wsX5_night_r3, w ∈ lw_tbl := by
  unfold wsX5_night_r3
  exact (List.forall_mem_cons.mpr ⟨mw_3_15, (List.forall_mem_cons.mpr ⟨mw_3_16, (List.forall_mem_cons.mpr ⟨mw_3_17, (List.forall_mem_cons.mpr ⟨mw_3_18, (List.forall_mem_cons.mpr ⟨mw_3_19, (List.forall_mem_cons.mpr ⟨mw_6_10, (List.forall_mem_cons.mpr ⟨mw_2_12, (List.forall_mem_cons.mpr ⟨mw_6_11, (List.forall_mem_cons.mpr ⟨mw_6_12, (List.forall_mem_cons.mpr ⟨mw_3_8, (List.forall_mem_cons.mpr ⟨mw_3_9, (List.forall_mem_cons.mpr ⟨mw_20_23, (List.forall_mem_cons.mpr ⟨mw_21_0, (List.forall_mem_cons.mpr ⟨mw_21_1, (List.forall_mem_cons.mpr ⟨mw_21_2, (List.forall_mem_cons.mpr ⟨mw_21_3, (List.forall_mem_cons.mpr ⟨mw_12_18, (List.forall_mem_cons.mpr ⟨mw_9_1, (List.forall_mem_cons.mpr ⟨mw_9_2, (List.forall_mem_cons.mpr ⟨mw_21_4, (List.forall_mem_cons.mpr ⟨mw_21_5, (List.forall_mem_cons.mpr ⟨mw_21_6, (List.forall_mem_cons.mpr ⟨mw_21_7, (List.forall_mem_cons.mpr ⟨mw_18_18, (fun _ h => absurd h List.not_mem_nil)⟩)⟩)⟩)⟩)⟩)⟩)⟩)⟩)⟩)⟩)⟩)⟩)⟩)⟩)⟩)⟩)⟩)⟩)⟩)⟩)⟩)⟩)⟩)⟩)
theorem mw_21_10 : (Cond.code yX3_sendAllAway cX3_sendAllAway 2 none) ∈ lw_tbl := wsL_in_r21 _ (List.mem_of_getElem? (i := 10) rfl)
theorem mw_21_9 : (Cond.selects RX3 yX3_sendAllAway yX3_sendAllAway) ∈ lw_tbl := wsL_in_r21 _ (List.mem_of_getElem? (i := 9) rfl)
theorem mw_21_8 : (Cond.instanceMethod yX3_sendAllAway) ∈ lw_tbl := wsL_in_r21 _ (List.mem_of_getElem? (i := 8) rfl)
theorem memT_wsX5_night_r4 : ∀ w ∈ wsX5_night_r4, w ∈ lw_tbl := by
  unfold wsX5_night_r4
  exact (List.forall_mem_cons.mpr ⟨mw_18_19, (List.forall_mem_cons.mpr ⟨mw_6_19, (List.forall_mem_cons.mpr ⟨mw_6_20, (List.forall_mem_cons.mpr ⟨mw_21_8, (List.forall_mem_cons.mpr ⟨mw_21_9, (List.forall_mem_cons.mpr ⟨mw_21_10, (fun _ h => absurd h List.not_mem_nil)⟩)⟩)⟩)⟩)⟩)⟩)
theorem memT_wsX5_night : ∀ w ∈ wsX5_night, w ∈ lw_tbl := by
  unfold wsX5_night
  exact (List.forall_mem_cons.mpr ⟨mw_20_22, (List.forall_mem_append.mpr ⟨(List.forall_mem_append.mpr ⟨(List.forall_mem_append.mpr ⟨(List.forall_mem_append.mpr ⟨(List.forall_mem_append.mpr ⟨(List.forall_mem_append.mpr ⟨memT_wsX5_night_r1, (List.forall_mem_append.mpr ⟨memT_wsX5_night_r2, (List.forall_mem_append.mpr ⟨memT_wsX5_night_r3, memT_wsX5_night_r4⟩)⟩)⟩), inX5⟩), inX2⟩), inX0⟩), inX1⟩), inX3⟩)⟩)
theorem mw_20_21 : (Cond.selects RX5 yX5_night yX5_night) ∈ lw_tbl := wsL_in_r20 _ (List.mem_of_getElem? (i := 21) rfl)
theorem mw_20_20 : (Cond.instanceMethod yX5_night) ∈ lw_tbl := wsL_in_r20 _ (List.mem_of_getElem? (i := 20) rfl)
theorem mw_20_19 : (Cond.methodLink RL 131 yX5_night) ∈ lw_tbl := wsL_in_r20 _ (List.mem_of_getElem? (i := 19) rfl)
set_option maxRecDepth 20000 in
theorem gT_X5_night : GoodIn lw_tbl (wsV RL 131 RX5 yX5_night wsX5_night) := goodIn_sub (by
  unfold wsV
  exact List.forall_mem_append.mpr ⟨(List.forall_mem_cons.mpr ⟨mw_20_19, (List.forall_mem_cons.mpr ⟨mw_20_20, (List.forall_mem_cons.mpr ⟨mw_20_21, (List.forall_mem_cons.mpr ⟨mw_1_2, (fun _ h => absurd h List.not_mem_nil)⟩)⟩)⟩)⟩), memT_wsX5_night⟩) (by decide +kernel)
theorem mw_21_14 : (Cond.code yX6_night cX6_night 1 (some .int)) ∈ lw_tbl := wsL_in_r21 _ (List.mem_of_getElem? (i := 14) rfl)
theorem mw_21_18 : (Cond.code yX6_nights cX6_nights 3 (some .int)) ∈ lw_tbl := wsL_in_r21 _ (List.mem_of_getElem? (i := 18) rfl)
theorem mw_21_17 : (Cond.selects RX6 yX6_nights yX6_nights) ∈ lw_tbl := wsL_in_r21 _ (List.mem_of_getElem? (i := 17) rfl)
theorem mw_21_16 : (Cond.instanceMethod yX6_nights) ∈ lw_tbl := wsL_in_r21 _ (List.mem_of_getElem? (i := 16) rfl)
theorem mw_21_15 : (Cond.methodLink RX6 114 yX6_nights) ∈ lw_tbl := wsL_in_r21 _ (List.mem_of_getElem? (i := 15) rfl)
theorem memT_wsX6_night : ∀ w ∈ wsX6_night, w ∈ lw_tbl := by
  unfold wsX6_night
  exact (List.forall_mem_cons.mpr ⟨mw_21_14, (List.forall_mem_append.mpr ⟨(List.forall_mem_cons.mpr ⟨mw_7_8, (List.forall_mem_cons.mpr ⟨mw_7_9, (List.forall_mem_cons.mpr ⟨mw_7_10, (List.forall_mem_cons.mpr ⟨mw_7_11, (List.forall_mem_cons.mpr ⟨mw_1_5, (List.forall_mem_cons.mpr ⟨mw_7_12, (List.forall_mem_cons.mpr ⟨mw_7_13, (List.forall_mem_cons.mpr ⟨mw_7_14, (List.forall_mem_cons.mpr ⟨mw_7_15, (List.forall_mem_cons.mpr ⟨mw_7_16, (List.forall_mem_cons.mpr ⟨mw_7_17, (List.forall_mem_cons.mpr ⟨mw_4_9, (List.forall_mem_cons.mpr ⟨mw_21_15, (List.forall_mem_cons.mpr ⟨mw_21_16, (List.forall_mem_cons.mpr ⟨mw_21_17, (List.forall_mem_cons.mpr ⟨mw_21_18, (List.forall_mem_cons.mpr ⟨mw_10_13, (List.forall_mem_cons.mpr ⟨mw_10_14, (List.forall_mem_cons.mpr ⟨mw_10_15, (List.forall_mem_cons.mpr ⟨mw_10_16, (List.forall_mem_cons.mpr ⟨mw_7_18, (List.forall_mem_cons.mpr ⟨mw_7_19, (List.forall_mem_cons.mpr ⟨mw_7_20, (List.forall_mem_cons.mpr ⟨mw_7_21, (fun _ h => absurd h List.not_mem_nil)⟩)⟩)⟩)⟩)⟩)⟩)⟩)⟩)⟩)⟩)⟩)⟩)⟩)⟩)⟩)⟩)⟩)⟩)⟩)⟩)⟩)⟩)⟩)⟩), inX6⟩)⟩)
theorem mw_21_13 : (Cond.selects RX6 yX6_night yX6_night) ∈ lw_tbl := wsL_in_r21 _ (List.mem_of_getElem? (i := 13) rfl)
theorem mw_21_12 : (Cond.instanceMethod yX6_night) ∈ lw_tbl := wsL_in_r21 _ (List.mem_of_getElem? (i := 12) rfl)
theorem mw_21_11 : (Cond.methodLink RL 134 yX6_night) ∈ lw_tbl := wsL_in_r21 _ (List.mem_of_getElem? (i := 11) rfl)
set_option maxRecDepth 20000 in
theorem gT_X6_night : GoodIn lw_tbl (wsV RL 134 RX6 yX6_night wsX6_night) := goodIn_sub (by
  unfold wsV
  exact List.forall_mem_append.mpr ⟨(List.forall_mem_cons.mpr ⟨mw_21_11, (List.forall_mem_cons.mpr ⟨mw_21_12, (List.forall_mem_cons.mpr ⟨mw_21_13, (List.forall_mem_cons.mpr ⟨mw_1_5, (fun _ h => absurd h List.not_mem_nil)⟩)⟩)⟩)⟩), memT_wsX6_night⟩) (by decide +kernel)
theorem mw_21_21 : (Cond.codeWith yL_set cL_set 5 (some .int) [(0, 10, 13, 21), (0, 10, 17, 13)]) ∈ lw_tbl := wsL_in_r21 _ (List.mem_of_getElem? (i := 21) rfl)
theorem mw_22_3 : (Cond.fieldLink RX5 149 "LaceRanks" "SETTING_MOST" "[I") ∈ lw_tbl := wsL_in_r22 _ (List.mem_of_getElem? (i := 3) rfl)
theorem mw_22_2 : (Cond.fieldLink RX5 146 "LaceRanks" "SETTING_LEAST" "[I") ∈ lw_tbl := wsL_in_r22 _ (List.mem_of_getElem? (i := 2) rfl)
theorem mw_22_1 : (Cond.code yX5_set cX5_set 4 (some .int)) ∈ lw_tbl := wsL_in_r22 _ (List.mem_of_getElem? (i := 1) rfl)
theorem mw_22_0 : (Cond.selects RX5 yX5_set yX5_set) ∈ lw_tbl := wsL_in_r22 _ (List.mem_of_getElem? (i := 0) rfl)
theorem mw_21_23 : (Cond.instanceMethod yX5_set) ∈ lw_tbl := wsL_in_r21 _ (List.mem_of_getElem? (i := 23) rfl)
theorem mw_21_22 : (Cond.methodLink RL 45 yX5_set) ∈ lw_tbl := wsL_in_r21 _ (List.mem_of_getElem? (i := 22) rfl)
theorem memT_wsL_set_r1 : ∀ w ∈ wsL_set_r1, w ∈ lw_tbl := by
  unfold wsL_set_r1
  exact (List.forall_mem_cons.mpr ⟨mw_8_5, (List.forall_mem_cons.mpr ⟨mw_4_16, (List.forall_mem_cons.mpr ⟨mw_21_22, (List.forall_mem_cons.mpr ⟨mw_21_23, (List.forall_mem_cons.mpr ⟨mw_22_0, (List.forall_mem_cons.mpr ⟨mw_1_2, (List.forall_mem_cons.mpr ⟨mw_22_1, (List.forall_mem_cons.mpr ⟨mw_22_2, (List.forall_mem_cons.mpr ⟨mw_22_3, (List.forall_mem_cons.mpr ⟨mw_1_21, (List.forall_mem_cons.mpr ⟨mw_1_16, (List.forall_mem_cons.mpr ⟨mw_4_22, (List.forall_mem_cons.mpr ⟨mw_4_23, (List.forall_mem_cons.mpr ⟨mw_5_0, (List.forall_mem_cons.mpr ⟨mw_16_20, (List.forall_mem_cons.mpr ⟨mw_16_21, (List.forall_mem_cons.mpr ⟨mw_16_22, (List.forall_mem_cons.mpr ⟨mw_8_14, (List.forall_mem_cons.mpr ⟨mw_8_15, (List.forall_mem_cons.mpr ⟨mw_12_18, (List.forall_mem_cons.mpr ⟨mw_9_1, (List.forall_mem_cons.mpr ⟨mw_9_2, (List.forall_mem_cons.mpr ⟨mw_5_1, (List.forall_mem_cons.mpr ⟨mw_5_2, (fun _ h => absurd h List.not_mem_nil)⟩)⟩)⟩)⟩)⟩)⟩)⟩)⟩)⟩)⟩)⟩)⟩)⟩)⟩)⟩)⟩)⟩)⟩)⟩)⟩)⟩)⟩)⟩)⟩)
theorem memT_wsL_set_r2 : ∀ w ∈ wsL_set_r2, w ∈ lw_tbl := by
  unfold wsL_set_r2
  exact (List.forall_mem_cons.mpr ⟨mw_5_3, (List.forall_mem_cons.mpr ⟨mw_5_4, (List.forall_mem_cons.mpr ⟨mw_5_5, (List.forall_mem_cons.mpr ⟨mw_5_11, (List.forall_mem_cons.mpr ⟨mw_1_20, (List.forall_mem_cons.mpr ⟨mw_5_12, (List.forall_mem_cons.mpr ⟨mw_5_13, (List.forall_mem_cons.mpr ⟨mw_5_14, (List.forall_mem_cons.mpr ⟨mw_5_15, (List.forall_mem_cons.mpr ⟨mw_5_16, (List.forall_mem_cons.mpr ⟨mw_5_17, (List.forall_mem_cons.mpr ⟨mw_5_18, (List.forall_mem_cons.mpr ⟨mw_5_19, (List.forall_mem_cons.mpr ⟨mw_4_0, (List.forall_mem_cons.mpr ⟨mw_5_20, (List.forall_mem_cons.mpr ⟨mw_1_15, (List.forall_mem_cons.mpr ⟨mw_5_21, (List.forall_mem_cons.mpr ⟨mw_5_22, (List.forall_mem_cons.mpr ⟨mw_2_9, (List.forall_mem_cons.mpr ⟨mw_2_13, (List.forall_mem_cons.mpr ⟨mw_2_15, (List.forall_mem_cons.mpr ⟨mw_5_23, (List.forall_mem_cons.mpr ⟨mw_6_0, (List.forall_mem_cons.mpr ⟨mw_6_1, (fun _ h => absurd h List.not_mem_nil)⟩)⟩)⟩)⟩)⟩)⟩)⟩)⟩)⟩)⟩)⟩)⟩)⟩)⟩)⟩)⟩)⟩)⟩)⟩)⟩)⟩)⟩)⟩)⟩)
theorem memT_wsL_set_r3 : ∀ w ∈ wsL_set_r3, w ∈ lw_tbl := by
  unfold wsL_set_r3
  exact (List.forall_mem_cons.mpr ⟨mw_6_2, (List.forall_mem_cons.mpr ⟨mw_6_3, (List.forall_mem_cons.mpr ⟨mw_6_4, (List.forall_mem_cons.mpr ⟨mw_6_5, (List.forall_mem_cons.mpr ⟨mw_2_16, (List.forall_mem_cons.mpr ⟨mw_2_17, (List.forall_mem_cons.mpr ⟨mw_6_6, (List.forall_mem_cons.mpr ⟨mw_2_8, (List.forall_mem_cons.mpr ⟨mw_6_7, (List.forall_mem_cons.mpr ⟨mw_6_8, (List.forall_mem_cons.mpr ⟨mw_2_21, (List.forall_mem_cons.mpr ⟨mw_2_22, (List.forall_mem_cons.mpr ⟨mw_2_23, (List.forall_mem_cons.mpr ⟨mw_3_0, (List.forall_mem_cons.mpr ⟨mw_3_1, (List.forall_mem_cons.mpr ⟨mw_3_2, (List.forall_mem_cons.mpr ⟨mw_3_3, (List.forall_mem_cons.mpr ⟨mw_3_4, (List.forall_mem_cons.mpr ⟨mw_6_9, (List.forall_mem_cons.mpr ⟨mw_3_10, (List.forall_mem_cons.mpr ⟨mw_3_11, (List.forall_mem_cons.mpr ⟨mw_3_12, (List.forall_mem_cons.mpr ⟨mw_3_13, (List.forall_mem_cons.mpr ⟨mw_3_14, (fun _ h => absurd h List.not_mem_nil)⟩)⟩)⟩)⟩)⟩)⟩)⟩)⟩)⟩)⟩)⟩)⟩)⟩)⟩)⟩)⟩)⟩)⟩)⟩)⟩)⟩)⟩)⟩)⟩)
theorem mw_22_4 : (Cond.methodLink RX5 155 yX5_put) ∈ lw_tbl := wsL_in_r22 _ (List.mem_of_getElem? (i := 4) rfl)
theorem memT_wsL_set_r4 : ∀ w ∈ wsL_set_r4, w ∈ lw_tbl := by
  unfold wsL_set_r4
  exact (List.forall_mem_cons.mpr ⟨mw_3_15, (List.forall_mem_cons.mpr ⟨mw_3_16, (List.forall_mem_cons.mpr ⟨mw_3_17, (List.forall_mem_cons.mpr ⟨mw_3_18, (List.forall_mem_cons.mpr ⟨mw_3_19, (List.forall_mem_cons.mpr ⟨mw_6_10, (List.forall_mem_cons.mpr ⟨mw_2_12, (List.forall_mem_cons.mpr ⟨mw_6_11, (List.forall_mem_cons.mpr ⟨mw_6_12, (List.forall_mem_cons.mpr ⟨mw_3_8, (List.forall_mem_cons.mpr ⟨mw_3_9, (List.forall_mem_cons.mpr ⟨mw_22_4, (List.forall_mem_cons.mpr ⟨mw_6_19, (List.forall_mem_cons.mpr ⟨mw_6_20, (fun _ h => absurd h List.not_mem_nil)⟩)⟩)⟩)⟩)⟩)⟩)⟩)⟩)⟩)⟩)⟩)⟩)⟩)⟩)
theorem memT_wsL_set : ∀ w ∈ wsL_set, w ∈ lw_tbl := by
  unfold wsL_set
  exact (List.forall_mem_cons.mpr ⟨mw_21_21, (List.forall_mem_append.mpr ⟨(List.forall_mem_append.mpr ⟨(List.forall_mem_append.mpr ⟨(List.forall_mem_append.mpr ⟨(List.forall_mem_append.mpr ⟨(List.forall_mem_append.mpr ⟨(List.forall_mem_append.mpr ⟨(List.forall_mem_append.mpr ⟨memT_wsL_set_r1, (List.forall_mem_append.mpr ⟨memT_wsL_set_r2, (List.forall_mem_append.mpr ⟨memT_wsL_set_r3, memT_wsL_set_r4⟩)⟩)⟩), inX5⟩), inX0⟩), inX2⟩), inX1⟩), inX3⟩), wsL_law__x2⟩), wsL_law__x0⟩)⟩)
theorem mw_21_20 : (Cond.static yL_set) ∈ lw_tbl := wsL_in_r21 _ (List.mem_of_getElem? (i := 20) rfl)
theorem mw_21_19 : (Cond.methodLink RL 135 yL_set) ∈ lw_tbl := wsL_in_r21 _ (List.mem_of_getElem? (i := 19) rfl)
set_option maxRecDepth 20000 in
theorem gT_L_set : GoodIn lw_tbl (va_wsS RL 135 yL_set wsL_set) := goodIn_sub (by
  unfold va_wsS
  exact List.forall_mem_append.mpr ⟨(List.forall_mem_cons.mpr ⟨mw_21_19, (List.forall_mem_cons.mpr ⟨mw_21_20, (List.forall_mem_cons.mpr ⟨mw_4_14, (fun _ h => absurd h List.not_mem_nil)⟩)⟩)⟩), memT_wsL_set⟩) (by decide +kernel)
theorem mw_22_8 : (Cond.code yX6_set cX6_set 6 (some .int)) ∈ lw_tbl := wsL_in_r22 _ (List.mem_of_getElem? (i := 8) rfl)
theorem mw_22_11 : (Cond.code yX6_most cX6_most 1 (some .int)) ∈ lw_tbl := wsL_in_r22 _ (List.mem_of_getElem? (i := 11) rfl)
theorem mw_22_10 : (Cond.static yX6_most) ∈ lw_tbl := wsL_in_r22 _ (List.mem_of_getElem? (i := 10) rfl)
theorem mw_22_9 : (Cond.methodLink RX6 118 yX6_most) ∈ lw_tbl := wsL_in_r22 _ (List.mem_of_getElem? (i := 9) rfl)
theorem memT_wsX6_set : ∀ w ∈ wsX6_set, w ∈ lw_tbl := by
  unfold wsX6_set
  exact (List.forall_mem_cons.mpr ⟨mw_22_8, (List.forall_mem_append.mpr ⟨(List.forall_mem_cons.mpr ⟨mw_4_9, (List.forall_mem_cons.mpr ⟨mw_7_1, (List.forall_mem_cons.mpr ⟨mw_7_2, (List.forall_mem_cons.mpr ⟨mw_1_5, (List.forall_mem_cons.mpr ⟨mw_7_3, (List.forall_mem_cons.mpr ⟨mw_22_9, (List.forall_mem_cons.mpr ⟨mw_22_10, (List.forall_mem_cons.mpr ⟨mw_22_11, (List.forall_mem_cons.mpr ⟨mw_7_4, (List.forall_mem_cons.mpr ⟨mw_7_5, (List.forall_mem_cons.mpr ⟨mw_7_6, (List.forall_mem_cons.mpr ⟨mw_7_7, (List.forall_mem_cons.mpr ⟨mw_7_8, (List.forall_mem_cons.mpr ⟨mw_7_9, (List.forall_mem_cons.mpr ⟨mw_7_10, (List.forall_mem_cons.mpr ⟨mw_7_11, (List.forall_mem_cons.mpr ⟨mw_7_12, (List.forall_mem_cons.mpr ⟨mw_7_13, (List.forall_mem_cons.mpr ⟨mw_7_14, (List.forall_mem_cons.mpr ⟨mw_7_15, (List.forall_mem_cons.mpr ⟨mw_7_16, (List.forall_mem_cons.mpr ⟨mw_7_17, (fun _ h => absurd h List.not_mem_nil)⟩)⟩)⟩)⟩)⟩)⟩)⟩)⟩)⟩)⟩)⟩)⟩)⟩)⟩)⟩)⟩)⟩)⟩)⟩)⟩)⟩)⟩), inX6⟩)⟩)
theorem mw_22_7 : (Cond.selects RX6 yX6_set yX6_set) ∈ lw_tbl := wsL_in_r22 _ (List.mem_of_getElem? (i := 7) rfl)
theorem mw_22_6 : (Cond.instanceMethod yX6_set) ∈ lw_tbl := wsL_in_r22 _ (List.mem_of_getElem? (i := 6) rfl)
theorem mw_22_5 : (Cond.methodLink RL 137 yX6_set) ∈ lw_tbl := wsL_in_r22 _ (List.mem_of_getElem? (i := 5) rfl)
set_option maxRecDepth 20000 in
theorem gT_X6_set : GoodIn lw_tbl (wsV RL 137 RX6 yX6_set wsX6_set) := goodIn_sub (by
  unfold wsV
  exact List.forall_mem_append.mpr ⟨(List.forall_mem_cons.mpr ⟨mw_22_5, (List.forall_mem_cons.mpr ⟨mw_22_6, (List.forall_mem_cons.mpr ⟨mw_22_7, (List.forall_mem_cons.mpr ⟨mw_1_5, (fun _ h => absurd h List.not_mem_nil)⟩)⟩)⟩)⟩), memT_wsX6_set⟩) (by decide +kernel)
theorem mw_22_14 : (Cond.codeWith yL_append cL_append 4 (some .int) [(0, 9, 12, 13), (0, 9, 15, 15)]) ∈ lw_tbl := wsL_in_r22 _ (List.mem_of_getElem? (i := 14) rfl)
theorem mw_22_20 : (Cond.selects RX4 yX4_write yX4_write) ∈ lw_tbl := wsL_in_r22 _ (List.mem_of_getElem? (i := 20) rfl)
theorem mw_22_19 : (Cond.instanceMethod yX4_write) ∈ lw_tbl := wsL_in_r22 _ (List.mem_of_getElem? (i := 19) rfl)
theorem mw_22_18 : (Cond.code yX5_append cX5_append 2 (some .int)) ∈ lw_tbl := wsL_in_r22 _ (List.mem_of_getElem? (i := 18) rfl)
theorem mw_22_17 : (Cond.selects RX5 yX5_append yX5_append) ∈ lw_tbl := wsL_in_r22 _ (List.mem_of_getElem? (i := 17) rfl)
theorem mw_22_16 : (Cond.instanceMethod yX5_append) ∈ lw_tbl := wsL_in_r22 _ (List.mem_of_getElem? (i := 16) rfl)
theorem mw_22_15 : (Cond.methodLink RL 48 yX5_append) ∈ lw_tbl := wsL_in_r22 _ (List.mem_of_getElem? (i := 15) rfl)
theorem memT_wsL_append_r1 : ∀ w ∈ wsL_append_r1, w ∈ lw_tbl := by
  unfold wsL_append_r1
  exact (List.forall_mem_cons.mpr ⟨mw_4_16, (List.forall_mem_cons.mpr ⟨mw_4_17, (List.forall_mem_cons.mpr ⟨mw_22_15, (List.forall_mem_cons.mpr ⟨mw_22_16, (List.forall_mem_cons.mpr ⟨mw_22_17, (List.forall_mem_cons.mpr ⟨mw_1_2, (List.forall_mem_cons.mpr ⟨mw_22_18, (List.forall_mem_cons.mpr ⟨mw_2_1, (List.forall_mem_cons.mpr ⟨mw_4_22, (List.forall_mem_cons.mpr ⟨mw_4_23, (List.forall_mem_cons.mpr ⟨mw_5_0, (List.forall_mem_cons.mpr ⟨mw_5_1, (List.forall_mem_cons.mpr ⟨mw_5_2, (List.forall_mem_cons.mpr ⟨mw_5_3, (List.forall_mem_cons.mpr ⟨mw_5_4, (List.forall_mem_cons.mpr ⟨mw_5_5, (List.forall_mem_cons.mpr ⟨mw_5_6, (List.forall_mem_cons.mpr ⟨mw_5_7, (List.forall_mem_cons.mpr ⟨mw_5_8, (List.forall_mem_cons.mpr ⟨mw_5_9, (List.forall_mem_cons.mpr ⟨mw_5_10, (List.forall_mem_cons.mpr ⟨mw_22_19, (List.forall_mem_cons.mpr ⟨mw_2_0, (List.forall_mem_cons.mpr ⟨mw_22_20, (fun _ h => absurd h List.not_mem_nil)⟩)⟩)⟩)⟩)⟩)⟩)⟩)⟩)⟩)⟩)⟩)⟩)⟩)⟩)⟩)⟩)⟩)⟩)⟩)⟩)⟩)⟩)⟩)⟩)
theorem mw_22_22 : (Cond.fieldLink RX4 15 "LaceRanks$Text" "length" "I") ∈ lw_tbl := wsL_in_r22 _ (List.mem_of_getElem? (i := 22) rfl)
theorem mw_22_21 : (Cond.code yX4_write cX4_write 2 none) ∈ lw_tbl := wsL_in_r22 _ (List.mem_of_getElem? (i := 21) rfl)
theorem memT_wsL_append_r2 : ∀ w ∈ wsL_append_r2, w ∈ lw_tbl := by
  unfold wsL_append_r2
  exact (List.forall_mem_cons.mpr ⟨mw_22_21, (List.forall_mem_cons.mpr ⟨mw_4_4, (List.forall_mem_cons.mpr ⟨mw_22_22, (List.forall_mem_cons.mpr ⟨mw_6_19, (List.forall_mem_cons.mpr ⟨mw_6_20, (fun _ h => absurd h List.not_mem_nil)⟩)⟩)⟩)⟩)⟩)
theorem memT_wsL_append : ∀ w ∈ wsL_append, w ∈ lw_tbl := by
  unfold wsL_append
  exact (List.forall_mem_cons.mpr ⟨mw_22_14, (List.forall_mem_append.mpr ⟨(List.forall_mem_append.mpr ⟨(List.forall_mem_append.mpr ⟨(List.forall_mem_append.mpr ⟨(List.forall_mem_append.mpr ⟨memT_wsL_append_r1, memT_wsL_append_r2⟩), inX5⟩), inX4⟩), wsL_law__x0⟩), wsL_law__x1⟩)⟩)
theorem mw_22_13 : (Cond.static yL_append) ∈ lw_tbl := wsL_in_r22 _ (List.mem_of_getElem? (i := 13) rfl)
theorem mw_22_12 : (Cond.methodLink RL 138 yL_append) ∈ lw_tbl := wsL_in_r22 _ (List.mem_of_getElem? (i := 12) rfl)
set_option maxRecDepth 20000 in
theorem gT_L_append : GoodIn lw_tbl (va_wsS RL 138 yL_append wsL_append) := goodIn_sub (by
  unfold va_wsS
  exact List.forall_mem_append.mpr ⟨(List.forall_mem_cons.mpr ⟨mw_22_12, (List.forall_mem_cons.mpr ⟨mw_22_13, (List.forall_mem_cons.mpr ⟨mw_4_14, (fun _ h => absurd h List.not_mem_nil)⟩)⟩)⟩), memT_wsL_append⟩) (by decide +kernel)
theorem mw_23_2 : (Cond.code yX6_append cX6_append 2 (some .int)) ∈ lw_tbl := wsL_in_r23 _ (List.mem_of_getElem? (i := 2) rfl)
theorem mw_23_3 : (Cond.fieldLink RX6 121 "LaceRanksModel" "length" "I") ∈ lw_tbl := wsL_in_r23 _ (List.mem_of_getElem? (i := 3) rfl)
theorem memT_wsX6_append : ∀ w ∈ wsX6_append, w ∈ lw_tbl := by
  unfold wsX6_append
  exact (List.forall_mem_cons.mpr ⟨mw_23_2, (List.forall_mem_append.mpr ⟨(List.forall_mem_cons.mpr ⟨mw_23_3, (List.forall_mem_cons.mpr ⟨mw_4_10, (List.forall_mem_cons.mpr ⟨mw_7_1, (List.forall_mem_cons.mpr ⟨mw_7_2, (List.forall_mem_cons.mpr ⟨mw_1_5, (List.forall_mem_cons.mpr ⟨mw_7_3, (List.forall_mem_cons.mpr ⟨mw_7_4, (List.forall_mem_cons.mpr ⟨mw_7_5, (List.forall_mem_cons.mpr ⟨mw_7_6, (List.forall_mem_cons.mpr ⟨mw_7_7, (List.forall_mem_cons.mpr ⟨mw_7_8, (fun _ h => absurd h List.not_mem_nil)⟩)⟩)⟩)⟩)⟩)⟩)⟩)⟩)⟩)⟩)⟩), inX6⟩)⟩)
theorem mw_23_1 : (Cond.selects RX6 yX6_append yX6_append) ∈ lw_tbl := wsL_in_r23 _ (List.mem_of_getElem? (i := 1) rfl)
theorem mw_23_0 : (Cond.instanceMethod yX6_append) ∈ lw_tbl := wsL_in_r23 _ (List.mem_of_getElem? (i := 0) rfl)
theorem mw_22_23 : (Cond.methodLink RL 140 yX6_append) ∈ lw_tbl := wsL_in_r22 _ (List.mem_of_getElem? (i := 23) rfl)
set_option maxRecDepth 20000 in
theorem gT_X6_append : GoodIn lw_tbl (wsV RL 140 RX6 yX6_append wsX6_append) := goodIn_sub (by
  unfold wsV
  exact List.forall_mem_append.mpr ⟨(List.forall_mem_cons.mpr ⟨mw_22_23, (List.forall_mem_cons.mpr ⟨mw_23_0, (List.forall_mem_cons.mpr ⟨mw_23_1, (List.forall_mem_cons.mpr ⟨mw_1_5, (fun _ h => absurd h List.not_mem_nil)⟩)⟩)⟩)⟩), memT_wsX6_append⟩) (by decide +kernel)
theorem mw_23_7 : (Cond.code yX5_clearBuffer cX5_clearBuffer 2 (some .int)) ∈ lw_tbl := wsL_in_r23 _ (List.mem_of_getElem? (i := 7) rfl)
theorem memT_wsX5_clearBuffer : ∀ w ∈ wsX5_clearBuffer, w ∈ lw_tbl := by
  unfold wsX5_clearBuffer
  exact (List.forall_mem_cons.mpr ⟨mw_23_7, (List.forall_mem_append.mpr ⟨(List.forall_mem_append.mpr ⟨(List.forall_mem_cons.mpr ⟨mw_2_1, (fun _ h => absurd h List.not_mem_nil)⟩), inX5⟩), inX4⟩)⟩)
theorem mw_23_6 : (Cond.selects RX5 yX5_clearBuffer yX5_clearBuffer) ∈ lw_tbl := wsL_in_r23 _ (List.mem_of_getElem? (i := 6) rfl)
theorem mw_23_5 : (Cond.instanceMethod yX5_clearBuffer) ∈ lw_tbl := wsL_in_r23 _ (List.mem_of_getElem? (i := 5) rfl)
theorem mw_23_4 : (Cond.methodLink RL 141 yX5_clearBuffer) ∈ lw_tbl := wsL_in_r23 _ (List.mem_of_getElem? (i := 4) rfl)
set_option maxRecDepth 20000 in
theorem gT_X5_clearBuffer : GoodIn lw_tbl (wsV RL 141 RX5 yX5_clearBuffer wsX5_clearBuffer) := goodIn_sub (by
  unfold wsV
  exact List.forall_mem_append.mpr ⟨(List.forall_mem_cons.mpr ⟨mw_23_4, (List.forall_mem_cons.mpr ⟨mw_23_5, (List.forall_mem_cons.mpr ⟨mw_23_6, (List.forall_mem_cons.mpr ⟨mw_1_2, (fun _ h => absurd h List.not_mem_nil)⟩)⟩)⟩)⟩), memT_wsX5_clearBuffer⟩) (by decide +kernel)
theorem mw_23_11 : (Cond.code yX6_clearBuffer cX6_clearBuffer 2 (some .int)) ∈ lw_tbl := wsL_in_r23 _ (List.mem_of_getElem? (i := 11) rfl)
theorem memT_wsX6_clearBuffer : ∀ w ∈ wsX6_clearBuffer, w ∈ lw_tbl := by
  unfold wsX6_clearBuffer
  exact (List.forall_mem_cons.mpr ⟨mw_23_11, (List.forall_mem_append.mpr ⟨(List.forall_mem_cons.mpr ⟨mw_7_8, (List.forall_mem_cons.mpr ⟨mw_23_3, (fun _ h => absurd h List.not_mem_nil)⟩)⟩), inX6⟩)⟩)
theorem mw_23_10 : (Cond.selects RX6 yX6_clearBuffer yX6_clearBuffer) ∈ lw_tbl := wsL_in_r23 _ (List.mem_of_getElem? (i := 10) rfl)
theorem mw_23_9 : (Cond.instanceMethod yX6_clearBuffer) ∈ lw_tbl := wsL_in_r23 _ (List.mem_of_getElem? (i := 9) rfl)
theorem mw_23_8 : (Cond.methodLink RL 144 yX6_clearBuffer) ∈ lw_tbl := wsL_in_r23 _ (List.mem_of_getElem? (i := 8) rfl)
set_option maxRecDepth 20000 in
theorem gT_X6_clearBuffer : GoodIn lw_tbl (wsV RL 144 RX6 yX6_clearBuffer wsX6_clearBuffer) := goodIn_sub (by
  unfold wsV
  exact List.forall_mem_append.mpr ⟨(List.forall_mem_cons.mpr ⟨mw_23_8, (List.forall_mem_cons.mpr ⟨mw_23_9, (List.forall_mem_cons.mpr ⟨mw_23_10, (List.forall_mem_cons.mpr ⟨mw_1_5, (fun _ h => absurd h List.not_mem_nil)⟩)⟩)⟩)⟩), memT_wsX6_clearBuffer⟩) (by decide +kernel)
theorem mw_23_15 : (Cond.code yX5_firstError cX5_firstError 1 (some .int)) ∈ lw_tbl := wsL_in_r23 _ (List.mem_of_getElem? (i := 15) rfl)
theorem mw_24_6 : (Cond.static yX4_expectedBehindPart) ∈ lw_tbl := wsL_in_r24 _ (List.mem_of_getElem? (i := 6) rfl)
theorem mw_24_5 : (Cond.methodLink RX4 45 yX4_expectedBehindPart) ∈ lw_tbl := wsL_in_r24 _ (List.mem_of_getElem? (i := 5) rfl)
theorem mw_24_4 : (Cond.code yX4_expectedInPart cX4_expectedInPart 1 (some .int)) ∈ lw_tbl := wsL_in_r24 _ (List.mem_of_getElem? (i := 4) rfl)
theorem mw_24_3 : (Cond.static yX4_expectedInPart) ∈ lw_tbl := wsL_in_r24 _ (List.mem_of_getElem? (i := 3) rfl)
theorem mw_24_2 : (Cond.methodLink RX4 42 yX4_expectedInPart) ∈ lw_tbl := wsL_in_r24 _ (List.mem_of_getElem? (i := 2) rfl)
theorem mw_24_1 : (Cond.code yX4_expectedBehind cX4_expectedBehind 4 (some .int)) ∈ lw_tbl := wsL_in_r24 _ (List.mem_of_getElem? (i := 1) rfl)
theorem mw_24_0 : (Cond.static yX4_expectedBehind) ∈ lw_tbl := wsL_in_r24 _ (List.mem_of_getElem? (i := 0) rfl)
theorem mw_23_23 : (Cond.methodLink RX4 38 yX4_expectedBehind) ∈ lw_tbl := wsL_in_r23 _ (List.mem_of_getElem? (i := 23) rfl)
theorem mw_23_22 : (Cond.code yX4_signAt cX4_signAt 2 (some .int)) ∈ lw_tbl := wsL_in_r23 _ (List.mem_of_getElem? (i := 22) rfl)
theorem mw_23_21 : (Cond.selects RX4 yX4_signAt yX4_signAt) ∈ lw_tbl := wsL_in_r23 _ (List.mem_of_getElem? (i := 21) rfl)
theorem mw_23_20 : (Cond.instanceMethod yX4_signAt) ∈ lw_tbl := wsL_in_r23 _ (List.mem_of_getElem? (i := 20) rfl)
theorem mw_23_19 : (Cond.methodLink RX4 27 yX4_signAt) ∈ lw_tbl := wsL_in_r23 _ (List.mem_of_getElem? (i := 19) rfl)
theorem mw_23_18 : (Cond.code yX4_firstWrong cX4_firstWrong 3 (some .int)) ∈ lw_tbl := wsL_in_r23 _ (List.mem_of_getElem? (i := 18) rfl)
theorem mw_23_17 : (Cond.selects RX4 yX4_firstWrong yX4_firstWrong) ∈ lw_tbl := wsL_in_r23 _ (List.mem_of_getElem? (i := 17) rfl)
theorem mw_23_16 : (Cond.instanceMethod yX4_firstWrong) ∈ lw_tbl := wsL_in_r23 _ (List.mem_of_getElem? (i := 16) rfl)
theorem memT_wsX5_firstError_r1 : ∀ w ∈ wsX5_firstError_r1, w ∈ lw_tbl := by
  unfold wsX5_firstError_r1
  exact (List.forall_mem_cons.mpr ⟨mw_2_1, (List.forall_mem_cons.mpr ⟨mw_23_16, (List.forall_mem_cons.mpr ⟨mw_2_0, (List.forall_mem_cons.mpr ⟨mw_23_17, (List.forall_mem_cons.mpr ⟨mw_23_18, (List.forall_mem_cons.mpr ⟨mw_22_22, (List.forall_mem_cons.mpr ⟨mw_23_19, (List.forall_mem_cons.mpr ⟨mw_23_20, (List.forall_mem_cons.mpr ⟨mw_23_21, (List.forall_mem_cons.mpr ⟨mw_23_22, (List.forall_mem_cons.mpr ⟨mw_4_4, (List.forall_mem_cons.mpr ⟨mw_9_1, (List.forall_mem_cons.mpr ⟨mw_1_2, (List.forall_mem_cons.mpr ⟨mw_9_2, (List.forall_mem_cons.mpr ⟨mw_23_23, (List.forall_mem_cons.mpr ⟨mw_24_0, (List.forall_mem_cons.mpr ⟨mw_24_1, (List.forall_mem_cons.mpr ⟨mw_4_23, (List.forall_mem_cons.mpr ⟨mw_5_0, (List.forall_mem_cons.mpr ⟨mw_24_2, (List.forall_mem_cons.mpr ⟨mw_24_3, (List.forall_mem_cons.mpr ⟨mw_24_4, (List.forall_mem_cons.mpr ⟨mw_24_5, (List.forall_mem_cons.mpr ⟨mw_24_6, (fun _ h => absurd h List.not_mem_nil)⟩)⟩)⟩)⟩)⟩)⟩)⟩)⟩)⟩)⟩)⟩)⟩)⟩)⟩)⟩)⟩)⟩)⟩)⟩)⟩)⟩)⟩)⟩)⟩)
theorem mw_24_10 : (Cond.code yX4_expectedBehindTimes cX4_expectedBehindTimes 1 (some .int)) ∈ lw_tbl := wsL_in_r24 _ (List.mem_of_getElem? (i := 10) rfl)
theorem mw_24_9 : (Cond.static yX4_expectedBehindTimes) ∈ lw_tbl := wsL_in_r24 _ (List.mem_of_getElem? (i := 9) rfl)
theorem mw_24_8 : (Cond.methodLink RX4 48 yX4_expectedBehindTimes) ∈ lw_tbl := wsL_in_r24 _ (List.mem_of_getElem? (i := 8) rfl)
theorem mw_24_7 : (Cond.code yX4_expectedBehindPart cX4_expectedBehindPart 1 (some .int)) ∈ lw_tbl := wsL_in_r24 _ (List.mem_of_getElem? (i := 7) rfl)
theorem memT_wsX5_firstError_r2 : ∀ w ∈ wsX5_firstError_r2, w ∈ lw_tbl := by
  unfold wsX5_firstError_r2
  exact (List.forall_mem_cons.mpr ⟨mw_24_7, (List.forall_mem_cons.mpr ⟨mw_24_8, (List.forall_mem_cons.mpr ⟨mw_24_9, (List.forall_mem_cons.mpr ⟨mw_24_10, (fun _ h => absurd h List.not_mem_nil)⟩)⟩)⟩)⟩)
theorem memT_wsX5_firstError : ∀ w ∈ wsX5_firstError, w ∈ lw_tbl := by
  unfold wsX5_firstError
  exact (List.forall_mem_cons.mpr ⟨mw_23_15, (List.forall_mem_append.mpr ⟨(List.forall_mem_append.mpr ⟨(List.forall_mem_append.mpr ⟨memT_wsX5_firstError_r1, memT_wsX5_firstError_r2⟩), inX5⟩), inX4⟩)⟩)
theorem mw_23_14 : (Cond.selects RX5 yX5_firstError yX5_firstError) ∈ lw_tbl := wsL_in_r23 _ (List.mem_of_getElem? (i := 14) rfl)
theorem mw_23_13 : (Cond.instanceMethod yX5_firstError) ∈ lw_tbl := wsL_in_r23 _ (List.mem_of_getElem? (i := 13) rfl)
theorem mw_23_12 : (Cond.methodLink RL 145 yX5_firstError) ∈ lw_tbl := wsL_in_r23 _ (List.mem_of_getElem? (i := 12) rfl)
set_option maxRecDepth 20000 in
theorem gT_X5_firstError : GoodIn lw_tbl (wsV RL 145 RX5 yX5_firstError wsX5_firstError) := goodIn_sub (by
  unfold wsV
  exact List.forall_mem_append.mpr ⟨(List.forall_mem_cons.mpr ⟨mw_23_12, (List.forall_mem_cons.mpr ⟨mw_23_13, (List.forall_mem_cons.mpr ⟨mw_23_14, (List.forall_mem_cons.mpr ⟨mw_1_2, (fun _ h => absurd h List.not_mem_nil)⟩)⟩)⟩)⟩), memT_wsX5_firstError⟩) (by decide +kernel)
theorem mw_24_14 : (Cond.code yX6_firstError cX6_firstError 1 (some .int)) ∈ lw_tbl := wsL_in_r24 _ (List.mem_of_getElem? (i := 14) rfl)
theorem mw_25_10 : (Cond.code yX6_takes cX6_takes 3 (some .boolean)) ∈ lw_tbl := wsL_in_r25 _ (List.mem_of_getElem? (i := 10) rfl)
theorem mw_25_9 : (Cond.selects RX6 yX6_takes yX6_takes) ∈ lw_tbl := wsL_in_r25 _ (List.mem_of_getElem? (i := 9) rfl)
theorem mw_25_8 : (Cond.instanceMethod yX6_takes) ∈ lw_tbl := wsL_in_r25 _ (List.mem_of_getElem? (i := 8) rfl)
theorem mw_25_7 : (Cond.methodLink RX6 133 yX6_takes) ∈ lw_tbl := wsL_in_r25 _ (List.mem_of_getElem? (i := 7) rfl)
theorem mw_25_6 : (Cond.code yX6_sign cX6_sign 1 (some .int)) ∈ lw_tbl := wsL_in_r25 _ (List.mem_of_getElem? (i := 6) rfl)
theorem mw_25_5 : (Cond.selects RX6 yX6_sign yX6_sign) ∈ lw_tbl := wsL_in_r25 _ (List.mem_of_getElem? (i := 5) rfl)
theorem mw_25_4 : (Cond.instanceMethod yX6_sign) ∈ lw_tbl := wsL_in_r25 _ (List.mem_of_getElem? (i := 4) rfl)
theorem mw_25_3 : (Cond.methodLink RX6 127 yX6_sign) ∈ lw_tbl := wsL_in_r25 _ (List.mem_of_getElem? (i := 3) rfl)
theorem mw_25_2 : (Cond.fieldLink RX6 130 "LaceRanksModel" "second" "I") ∈ lw_tbl := wsL_in_r25 _ (List.mem_of_getElem? (i := 2) rfl)
theorem mw_25_1 : (Cond.fieldLink RX6 142 "LaceRanksModel" "first" "I") ∈ lw_tbl := wsL_in_r25 _ (List.mem_of_getElem? (i := 1) rfl)
theorem mw_25_0 : (Cond.fieldLink RX6 139 "LaceRanksModel" "part" "I") ∈ lw_tbl := wsL_in_r25 _ (List.mem_of_getElem? (i := 0) rfl)
theorem mw_24_23 : (Cond.code yX6_readsPart cX6_readsPart 1 (some .boolean)) ∈ lw_tbl := wsL_in_r24 _ (List.mem_of_getElem? (i := 23) rfl)
theorem mw_24_22 : (Cond.selects RX6 yX6_readsPart yX6_readsPart) ∈ lw_tbl := wsL_in_r24 _ (List.mem_of_getElem? (i := 22) rfl)
theorem mw_24_21 : (Cond.instanceMethod yX6_readsPart) ∈ lw_tbl := wsL_in_r24 _ (List.mem_of_getElem? (i := 21) rfl)
theorem mw_24_20 : (Cond.methodLink RX6 149 yX6_readsPart) ∈ lw_tbl := wsL_in_r24 _ (List.mem_of_getElem? (i := 20) rfl)
theorem mw_24_19 : (Cond.code yX6_isCarnival cX6_isCarnival 1 (some .boolean)) ∈ lw_tbl := wsL_in_r24 _ (List.mem_of_getElem? (i := 19) rfl)
theorem mw_24_18 : (Cond.selects RX6 yX6_isCarnival yX6_isCarnival) ∈ lw_tbl := wsL_in_r24 _ (List.mem_of_getElem? (i := 18) rfl)
theorem mw_24_17 : (Cond.instanceMethod yX6_isCarnival) ∈ lw_tbl := wsL_in_r24 _ (List.mem_of_getElem? (i := 17) rfl)
theorem mw_24_16 : (Cond.methodLink RX6 152 yX6_isCarnival) ∈ lw_tbl := wsL_in_r24 _ (List.mem_of_getElem? (i := 16) rfl)
theorem mw_24_15 : (Cond.fieldLink RX6 124 "LaceRanksModel" "at" "I") ∈ lw_tbl := wsL_in_r24 _ (List.mem_of_getElem? (i := 15) rfl)
theorem memT_wsX6_firstError_r1 : ∀ w ∈ wsX6_firstError_r1, w ∈ lw_tbl := by
  unfold wsX6_firstError_r1
  exact (List.forall_mem_cons.mpr ⟨mw_7_8, (List.forall_mem_cons.mpr ⟨mw_24_15, (List.forall_mem_cons.mpr ⟨mw_24_16, (List.forall_mem_cons.mpr ⟨mw_24_17, (List.forall_mem_cons.mpr ⟨mw_24_18, (List.forall_mem_cons.mpr ⟨mw_1_5, (List.forall_mem_cons.mpr ⟨mw_24_19, (List.forall_mem_cons.mpr ⟨mw_23_3, (List.forall_mem_cons.mpr ⟨mw_24_20, (List.forall_mem_cons.mpr ⟨mw_24_21, (List.forall_mem_cons.mpr ⟨mw_24_22, (List.forall_mem_cons.mpr ⟨mw_24_23, (List.forall_mem_cons.mpr ⟨mw_25_0, (List.forall_mem_cons.mpr ⟨mw_25_1, (List.forall_mem_cons.mpr ⟨mw_25_2, (List.forall_mem_cons.mpr ⟨mw_25_3, (List.forall_mem_cons.mpr ⟨mw_25_4, (List.forall_mem_cons.mpr ⟨mw_25_5, (List.forall_mem_cons.mpr ⟨mw_25_6, (List.forall_mem_cons.mpr ⟨mw_4_10, (List.forall_mem_cons.mpr ⟨mw_25_7, (List.forall_mem_cons.mpr ⟨mw_25_8, (List.forall_mem_cons.mpr ⟨mw_25_9, (List.forall_mem_cons.mpr ⟨mw_25_10, (fun _ h => absurd h List.not_mem_nil)⟩)⟩)⟩)⟩)⟩)⟩)⟩)⟩)⟩)⟩)⟩)⟩)⟩)⟩)⟩)⟩)⟩)⟩)⟩)⟩)⟩)⟩)⟩)⟩)
theorem mw_25_18 : (Cond.code yX6_readsOften cX6_readsOften 1 (some .boolean)) ∈ lw_tbl := wsL_in_r25 _ (List.mem_of_getElem? (i := 18) rfl)
theorem mw_25_17 : (Cond.selects RX6 yX6_readsOften yX6_readsOften) ∈ lw_tbl := wsL_in_r25 _ (List.mem_of_getElem? (i := 17) rfl)
theorem mw_25_16 : (Cond.instanceMethod yX6_readsOften) ∈ lw_tbl := wsL_in_r25 _ (List.mem_of_getElem? (i := 16) rfl)
theorem mw_25_15 : (Cond.methodLink RX6 145 yX6_readsOften) ∈ lw_tbl := wsL_in_r25 _ (List.mem_of_getElem? (i := 15) rfl)
theorem mw_25_14 : (Cond.code yX6_figure cX6_figure 4 (some .int)) ∈ lw_tbl := wsL_in_r25 _ (List.mem_of_getElem? (i := 14) rfl)
theorem mw_25_13 : (Cond.selects RX6 yX6_figure yX6_figure) ∈ lw_tbl := wsL_in_r25 _ (List.mem_of_getElem? (i := 13) rfl)
theorem mw_25_12 : (Cond.instanceMethod yX6_figure) ∈ lw_tbl := wsL_in_r25 _ (List.mem_of_getElem? (i := 12) rfl)
theorem mw_25_11 : (Cond.methodLink RX6 136 yX6_figure) ∈ lw_tbl := wsL_in_r25 _ (List.mem_of_getElem? (i := 11) rfl)
theorem memT_wsX6_firstError_r2 : ∀ w ∈ wsX6_firstError_r2, w ∈ lw_tbl := by
  unfold wsX6_firstError_r2
  exact (List.forall_mem_cons.mpr ⟨mw_25_11, (List.forall_mem_cons.mpr ⟨mw_25_12, (List.forall_mem_cons.mpr ⟨mw_25_13, (List.forall_mem_cons.mpr ⟨mw_25_14, (List.forall_mem_cons.mpr ⟨mw_7_1, (List.forall_mem_cons.mpr ⟨mw_7_2, (List.forall_mem_cons.mpr ⟨mw_7_3, (List.forall_mem_cons.mpr ⟨mw_25_15, (List.forall_mem_cons.mpr ⟨mw_25_16, (List.forall_mem_cons.mpr ⟨mw_25_17, (List.forall_mem_cons.mpr ⟨mw_25_18, (fun _ h => absurd h List.not_mem_nil)⟩)⟩)⟩)⟩)⟩)⟩)⟩)⟩)⟩)⟩)⟩)
theorem memT_wsX6_firstError : ∀ w ∈ wsX6_firstError, w ∈ lw_tbl := by
  unfold wsX6_firstError
  exact (List.forall_mem_cons.mpr ⟨mw_24_14, (List.forall_mem_append.mpr ⟨(List.forall_mem_append.mpr ⟨memT_wsX6_firstError_r1, memT_wsX6_firstError_r2⟩), inX6⟩)⟩)
theorem mw_24_13 : (Cond.selects RX6 yX6_firstError yX6_firstError) ∈ lw_tbl := wsL_in_r24 _ (List.mem_of_getElem? (i := 13) rfl)
theorem mw_24_12 : (Cond.instanceMethod yX6_firstError) ∈ lw_tbl := wsL_in_r24 _ (List.mem_of_getElem? (i := 12) rfl)
theorem mw_24_11 : (Cond.methodLink RL 148 yX6_firstError) ∈ lw_tbl := wsL_in_r24 _ (List.mem_of_getElem? (i := 11) rfl)
set_option maxRecDepth 20000 in
theorem gT_X6_firstError : GoodIn lw_tbl (wsV RL 148 RX6 yX6_firstError wsX6_firstError) := goodIn_sub (by
  unfold wsV
  exact List.forall_mem_append.mpr ⟨(List.forall_mem_cons.mpr ⟨mw_24_11, (List.forall_mem_cons.mpr ⟨mw_24_12, (List.forall_mem_cons.mpr ⟨mw_24_13, (List.forall_mem_cons.mpr ⟨mw_1_5, (fun _ h => absurd h List.not_mem_nil)⟩)⟩)⟩)⟩), memT_wsX6_firstError⟩) (by decide +kernel)
theorem mw_25_21 : (Cond.codeWith yL_revel cL_revel 3 (some .int) [(0, 8, 11, 13)]) ∈ lw_tbl := wsL_in_r25 _ (List.mem_of_getElem? (i := 21) rfl)
theorem mw_26_4 : (Cond.code yX4_isComplete cX4_isComplete 3 (some .boolean)) ∈ lw_tbl := wsL_in_r26 _ (List.mem_of_getElem? (i := 4) rfl)
theorem mw_26_3 : (Cond.selects RX4 yX4_isComplete yX4_isComplete) ∈ lw_tbl := wsL_in_r26 _ (List.mem_of_getElem? (i := 3) rfl)
theorem mw_26_2 : (Cond.instanceMethod yX4_isComplete) ∈ lw_tbl := wsL_in_r26 _ (List.mem_of_getElem? (i := 2) rfl)
theorem mw_26_1 : (Cond.code yX5_revel cX5_revel 4 (some .int)) ∈ lw_tbl := wsL_in_r26 _ (List.mem_of_getElem? (i := 1) rfl)
theorem mw_26_0 : (Cond.selects RX5 yX5_revel yX5_revel) ∈ lw_tbl := wsL_in_r26 _ (List.mem_of_getElem? (i := 0) rfl)
theorem mw_25_23 : (Cond.instanceMethod yX5_revel) ∈ lw_tbl := wsL_in_r25 _ (List.mem_of_getElem? (i := 23) rfl)
theorem mw_25_22 : (Cond.methodLink RL 51 yX5_revel) ∈ lw_tbl := wsL_in_r25 _ (List.mem_of_getElem? (i := 22) rfl)
theorem memT_wsL_revel_r1 : ∀ w ∈ wsL_revel_r1, w ∈ lw_tbl := by
  unfold wsL_revel_r1
  exact (List.forall_mem_cons.mpr ⟨mw_4_16, (List.forall_mem_cons.mpr ⟨mw_25_22, (List.forall_mem_cons.mpr ⟨mw_25_23, (List.forall_mem_cons.mpr ⟨mw_26_0, (List.forall_mem_cons.mpr ⟨mw_1_2, (List.forall_mem_cons.mpr ⟨mw_26_1, (List.forall_mem_cons.mpr ⟨mw_2_1, (List.forall_mem_cons.mpr ⟨mw_1_21, (List.forall_mem_cons.mpr ⟨mw_1_16, (List.forall_mem_cons.mpr ⟨mw_26_2, (List.forall_mem_cons.mpr ⟨mw_2_0, (List.forall_mem_cons.mpr ⟨mw_26_3, (List.forall_mem_cons.mpr ⟨mw_26_4, (List.forall_mem_cons.mpr ⟨mw_22_22, (List.forall_mem_cons.mpr ⟨mw_23_19, (List.forall_mem_cons.mpr ⟨mw_23_20, (List.forall_mem_cons.mpr ⟨mw_23_21, (List.forall_mem_cons.mpr ⟨mw_23_22, (List.forall_mem_cons.mpr ⟨mw_4_4, (List.forall_mem_cons.mpr ⟨mw_9_1, (List.forall_mem_cons.mpr ⟨mw_9_2, (List.forall_mem_cons.mpr ⟨mw_23_23, (List.forall_mem_cons.mpr ⟨mw_24_0, (List.forall_mem_cons.mpr ⟨mw_24_1, (fun _ h => absurd h List.not_mem_nil)⟩)⟩)⟩)⟩)⟩)⟩)⟩)⟩)⟩)⟩)⟩)⟩)⟩)⟩)⟩)⟩)⟩)⟩)⟩)⟩)⟩)⟩)⟩)⟩)
theorem memT_wsL_revel_r2 : ∀ w ∈ wsL_revel_r2, w ∈ lw_tbl := by
  unfold wsL_revel_r2
  exact (List.forall_mem_cons.mpr ⟨mw_4_23, (List.forall_mem_cons.mpr ⟨mw_5_0, (List.forall_mem_cons.mpr ⟨mw_24_2, (List.forall_mem_cons.mpr ⟨mw_24_3, (List.forall_mem_cons.mpr ⟨mw_24_4, (List.forall_mem_cons.mpr ⟨mw_24_5, (List.forall_mem_cons.mpr ⟨mw_24_6, (List.forall_mem_cons.mpr ⟨mw_24_7, (List.forall_mem_cons.mpr ⟨mw_24_8, (List.forall_mem_cons.mpr ⟨mw_24_9, (List.forall_mem_cons.mpr ⟨mw_24_10, (List.forall_mem_cons.mpr ⟨mw_5_1, (List.forall_mem_cons.mpr ⟨mw_5_2, (List.forall_mem_cons.mpr ⟨mw_5_3, (List.forall_mem_cons.mpr ⟨mw_5_4, (List.forall_mem_cons.mpr ⟨mw_5_5, (List.forall_mem_cons.mpr ⟨mw_5_11, (List.forall_mem_cons.mpr ⟨mw_1_20, (List.forall_mem_cons.mpr ⟨mw_5_12, (List.forall_mem_cons.mpr ⟨mw_5_13, (List.forall_mem_cons.mpr ⟨mw_5_14, (List.forall_mem_cons.mpr ⟨mw_5_15, (List.forall_mem_cons.mpr ⟨mw_5_16, (List.forall_mem_cons.mpr ⟨mw_5_17, (fun _ h => absurd h List.not_mem_nil)⟩)⟩)⟩)⟩)⟩)⟩)⟩)⟩)⟩)⟩)⟩)⟩)⟩)⟩)⟩)⟩)⟩)⟩)⟩)⟩)⟩)⟩)⟩)⟩)
theorem memT_wsL_revel_r3 : ∀ w ∈ wsL_revel_r3, w ∈ lw_tbl := by
  unfold wsL_revel_r3
  exact (List.forall_mem_cons.mpr ⟨mw_5_18, (List.forall_mem_cons.mpr ⟨mw_5_19, (List.forall_mem_cons.mpr ⟨mw_4_0, (List.forall_mem_cons.mpr ⟨mw_5_20, (List.forall_mem_cons.mpr ⟨mw_1_15, (List.forall_mem_cons.mpr ⟨mw_5_21, (List.forall_mem_cons.mpr ⟨mw_5_22, (List.forall_mem_cons.mpr ⟨mw_2_9, (List.forall_mem_cons.mpr ⟨mw_2_13, (List.forall_mem_cons.mpr ⟨mw_2_15, (List.forall_mem_cons.mpr ⟨mw_5_23, (List.forall_mem_cons.mpr ⟨mw_6_0, (List.forall_mem_cons.mpr ⟨mw_6_1, (List.forall_mem_cons.mpr ⟨mw_6_2, (List.forall_mem_cons.mpr ⟨mw_6_3, (List.forall_mem_cons.mpr ⟨mw_6_4, (List.forall_mem_cons.mpr ⟨mw_6_5, (List.forall_mem_cons.mpr ⟨mw_2_16, (List.forall_mem_cons.mpr ⟨mw_2_17, (List.forall_mem_cons.mpr ⟨mw_6_6, (List.forall_mem_cons.mpr ⟨mw_2_8, (List.forall_mem_cons.mpr ⟨mw_6_7, (List.forall_mem_cons.mpr ⟨mw_6_8, (List.forall_mem_cons.mpr ⟨mw_2_21, (fun _ h => absurd h List.not_mem_nil)⟩)⟩)⟩)⟩)⟩)⟩)⟩)⟩)⟩)⟩)⟩)⟩)⟩)⟩)⟩)⟩)⟩)⟩)⟩)⟩)⟩)⟩)⟩)⟩)
theorem memT_wsL_revel_r4 : ∀ w ∈ wsL_revel_r4, w ∈ lw_tbl := by
  unfold wsL_revel_r4
  exact (List.forall_mem_cons.mpr ⟨mw_2_22, (List.forall_mem_cons.mpr ⟨mw_2_23, (List.forall_mem_cons.mpr ⟨mw_3_0, (List.forall_mem_cons.mpr ⟨mw_3_1, (List.forall_mem_cons.mpr ⟨mw_3_2, (List.forall_mem_cons.mpr ⟨mw_3_3, (List.forall_mem_cons.mpr ⟨mw_3_4, (List.forall_mem_cons.mpr ⟨mw_6_9, (List.forall_mem_cons.mpr ⟨mw_3_10, (List.forall_mem_cons.mpr ⟨mw_3_11, (List.forall_mem_cons.mpr ⟨mw_3_12, (List.forall_mem_cons.mpr ⟨mw_3_13, (List.forall_mem_cons.mpr ⟨mw_3_14, (List.forall_mem_cons.mpr ⟨mw_3_15, (List.forall_mem_cons.mpr ⟨mw_3_16, (List.forall_mem_cons.mpr ⟨mw_3_17, (List.forall_mem_cons.mpr ⟨mw_3_18, (List.forall_mem_cons.mpr ⟨mw_3_19, (List.forall_mem_cons.mpr ⟨mw_6_10, (List.forall_mem_cons.mpr ⟨mw_2_12, (List.forall_mem_cons.mpr ⟨mw_6_11, (List.forall_mem_cons.mpr ⟨mw_6_12, (List.forall_mem_cons.mpr ⟨mw_3_8, (List.forall_mem_cons.mpr ⟨mw_3_9, (fun _ h => absurd h List.not_mem_nil)⟩)⟩)⟩)⟩)⟩)⟩)⟩)⟩)⟩)⟩)⟩)⟩)⟩)⟩)⟩)⟩)⟩)⟩)⟩)⟩)⟩)⟩)⟩)⟩)
theorem mw_26_21 : (Cond.methodLink RX0 170 yX0_reasonNoLine) ∈ lw_tbl := wsL_in_r26 _ (List.mem_of_getElem? (i := 21) rfl)
theorem mw_26_20 : (Cond.code yX0_tryLine cX0_tryLine 4 (some .int)) ∈ lw_tbl := wsL_in_r26 _ (List.mem_of_getElem? (i := 20) rfl)
theorem mw_26_19 : (Cond.selects RX0 yX0_tryLine yX0_tryLine) ∈ lw_tbl := wsL_in_r26 _ (List.mem_of_getElem? (i := 19) rfl)
theorem mw_26_18 : (Cond.instanceMethod yX0_tryLine) ∈ lw_tbl := wsL_in_r26 _ (List.mem_of_getElem? (i := 18) rfl)
theorem mw_26_17 : (Cond.code yX4_digitAt cX4_digitAt 3 (some .int)) ∈ lw_tbl := wsL_in_r26 _ (List.mem_of_getElem? (i := 17) rfl)
theorem mw_26_16 : (Cond.selects RX4 yX4_digitAt yX4_digitAt) ∈ lw_tbl := wsL_in_r26 _ (List.mem_of_getElem? (i := 16) rfl)
theorem mw_26_15 : (Cond.instanceMethod yX4_digitAt) ∈ lw_tbl := wsL_in_r26 _ (List.mem_of_getElem? (i := 15) rfl)
theorem mw_26_14 : (Cond.code yX5_happenPart cX5_happenPart 6 (some .int)) ∈ lw_tbl := wsL_in_r26 _ (List.mem_of_getElem? (i := 14) rfl)
theorem mw_26_13 : (Cond.selects RX5 yX5_happenPart yX5_happenPart) ∈ lw_tbl := wsL_in_r26 _ (List.mem_of_getElem? (i := 13) rfl)
theorem mw_26_12 : (Cond.instanceMethod yX5_happenPart) ∈ lw_tbl := wsL_in_r26 _ (List.mem_of_getElem? (i := 12) rfl)
theorem mw_26_11 : (Cond.methodLink RX5 178 yX5_happenPart) ∈ lw_tbl := wsL_in_r26 _ (List.mem_of_getElem? (i := 11) rfl)
theorem mw_26_10 : (Cond.code yX4_isPartAt cX4_isPartAt 2 (some .boolean)) ∈ lw_tbl := wsL_in_r26 _ (List.mem_of_getElem? (i := 10) rfl)
theorem mw_26_9 : (Cond.selects RX4 yX4_isPartAt yX4_isPartAt) ∈ lw_tbl := wsL_in_r26 _ (List.mem_of_getElem? (i := 9) rfl)
theorem mw_26_8 : (Cond.instanceMethod yX4_isPartAt) ∈ lw_tbl := wsL_in_r26 _ (List.mem_of_getElem? (i := 8) rfl)
theorem mw_26_7 : (Cond.code yX0_noteStop cX0_noteStop 3 none) ∈ lw_tbl := wsL_in_r26 _ (List.mem_of_getElem? (i := 7) rfl)
theorem mw_26_6 : (Cond.selects RX0 yX0_noteStop yX0_noteStop) ∈ lw_tbl := wsL_in_r26 _ (List.mem_of_getElem? (i := 6) rfl)
theorem mw_26_5 : (Cond.instanceMethod yX0_noteStop) ∈ lw_tbl := wsL_in_r26 _ (List.mem_of_getElem? (i := 5) rfl)
theorem memT_wsL_revel_r5 : ∀ w ∈ wsL_revel_r5, w ∈ lw_tbl := by
  unfold wsL_revel_r5
  exact (List.forall_mem_cons.mpr ⟨mw_26_5, (List.forall_mem_cons.mpr ⟨mw_26_6, (List.forall_mem_cons.mpr ⟨mw_26_7, (List.forall_mem_cons.mpr ⟨mw_26_8, (List.forall_mem_cons.mpr ⟨mw_26_9, (List.forall_mem_cons.mpr ⟨mw_26_10, (List.forall_mem_cons.mpr ⟨mw_26_11, (List.forall_mem_cons.mpr ⟨mw_26_12, (List.forall_mem_cons.mpr ⟨mw_26_13, (List.forall_mem_cons.mpr ⟨mw_26_14, (List.forall_mem_cons.mpr ⟨mw_26_15, (List.forall_mem_cons.mpr ⟨mw_26_16, (List.forall_mem_cons.mpr ⟨mw_26_17, (List.forall_mem_cons.mpr ⟨mw_26_18, (List.forall_mem_cons.mpr ⟨mw_26_19, (List.forall_mem_cons.mpr ⟨mw_26_20, (List.forall_mem_cons.mpr ⟨mw_8_16, (List.forall_mem_cons.mpr ⟨mw_8_17, (List.forall_mem_cons.mpr ⟨mw_8_18, (List.forall_mem_cons.mpr ⟨mw_26_21, (List.forall_mem_cons.mpr ⟨mw_16_23, (List.forall_mem_cons.mpr ⟨mw_17_0, (List.forall_mem_cons.mpr ⟨mw_17_1, (List.forall_mem_cons.mpr ⟨mw_9_3, (fun _ h => absurd h List.not_mem_nil)⟩)⟩)⟩)⟩)⟩)⟩)⟩)⟩)⟩)⟩)⟩)⟩)⟩)⟩)⟩)⟩)⟩)⟩)⟩)⟩)⟩)⟩)⟩)⟩)
theorem mw_27_1 : (Cond.methodLink RX4 35 yX4_digitAt) ∈ lw_tbl := wsL_in_r27 _ (List.mem_of_getElem? (i := 1) rfl)
theorem mw_27_0 : (Cond.code yX4_timesAt cX4_timesAt 2 (some .int)) ∈ lw_tbl := wsL_in_r27 _ (List.mem_of_getElem? (i := 0) rfl)
theorem mw_26_23 : (Cond.selects RX4 yX4_timesAt yX4_timesAt) ∈ lw_tbl := wsL_in_r26 _ (List.mem_of_getElem? (i := 23) rfl)
theorem mw_26_22 : (Cond.instanceMethod yX4_timesAt) ∈ lw_tbl := wsL_in_r26 _ (List.mem_of_getElem? (i := 22) rfl)
theorem memT_wsL_revel_r6 : ∀ w ∈ wsL_revel_r6, w ∈ lw_tbl := by
  unfold wsL_revel_r6
  exact (List.forall_mem_cons.mpr ⟨mw_9_4, (List.forall_mem_cons.mpr ⟨mw_9_5, (List.forall_mem_cons.mpr ⟨mw_9_6, (List.forall_mem_cons.mpr ⟨mw_9_7, (List.forall_mem_cons.mpr ⟨mw_9_8, (List.forall_mem_cons.mpr ⟨mw_9_9, (List.forall_mem_cons.mpr ⟨mw_9_10, (List.forall_mem_cons.mpr ⟨mw_9_11, (List.forall_mem_cons.mpr ⟨mw_9_12, (List.forall_mem_cons.mpr ⟨mw_17_2, (List.forall_mem_cons.mpr ⟨mw_17_3, (List.forall_mem_cons.mpr ⟨mw_17_4, (List.forall_mem_cons.mpr ⟨mw_6_19, (List.forall_mem_cons.mpr ⟨mw_6_20, (List.forall_mem_cons.mpr ⟨mw_26_22, (List.forall_mem_cons.mpr ⟨mw_26_23, (List.forall_mem_cons.mpr ⟨mw_27_0, (List.forall_mem_cons.mpr ⟨mw_27_1, (List.forall_mem_cons.mpr ⟨mw_18_3, (List.forall_mem_cons.mpr ⟨mw_18_4, (List.forall_mem_cons.mpr ⟨mw_18_5, (List.forall_mem_cons.mpr ⟨mw_18_6, (List.forall_mem_cons.mpr ⟨mw_18_7, (List.forall_mem_cons.mpr ⟨mw_18_8, (fun _ h => absurd h List.not_mem_nil)⟩)⟩)⟩)⟩)⟩)⟩)⟩)⟩)⟩)⟩)⟩)⟩)⟩)⟩)⟩)⟩)⟩)⟩)⟩)⟩)⟩)⟩)⟩)⟩)
theorem memT_wsL_revel_r7 : ∀ w ∈ wsL_revel_r7, w ∈ lw_tbl := by
  unfold wsL_revel_r7
  exact (List.forall_mem_cons.mpr ⟨mw_18_9, (List.forall_mem_cons.mpr ⟨mw_18_10, (List.forall_mem_cons.mpr ⟨mw_18_11, (List.forall_mem_cons.mpr ⟨mw_18_12, (List.forall_mem_cons.mpr ⟨mw_18_13, (List.forall_mem_cons.mpr ⟨mw_18_14, (List.forall_mem_cons.mpr ⟨mw_18_15, (List.forall_mem_cons.mpr ⟨mw_18_16, (List.forall_mem_cons.mpr ⟨mw_18_17, (List.forall_mem_cons.mpr ⟨mw_18_18, (List.forall_mem_cons.mpr ⟨mw_18_19, (List.forall_mem_cons.mpr ⟨mw_18_20, (List.forall_mem_cons.mpr ⟨mw_18_21, (List.forall_mem_cons.mpr ⟨mw_18_22, (List.forall_mem_cons.mpr ⟨mw_18_23, (List.forall_mem_cons.mpr ⟨mw_8_22, (List.forall_mem_cons.mpr ⟨mw_8_23, (List.forall_mem_cons.mpr ⟨mw_9_0, (List.forall_mem_cons.mpr ⟨mw_19_0, (List.forall_mem_cons.mpr ⟨mw_19_1, (List.forall_mem_cons.mpr ⟨mw_19_2, (List.forall_mem_cons.mpr ⟨mw_12_13, (List.forall_mem_cons.mpr ⟨mw_19_3, (List.forall_mem_cons.mpr ⟨mw_19_4, (fun _ h => absurd h List.not_mem_nil)⟩)⟩)⟩)⟩)⟩)⟩)⟩)⟩)⟩)⟩)⟩)⟩)⟩)⟩)⟩)⟩)⟩)⟩)⟩)⟩)⟩)⟩)⟩)⟩)
theorem mw_27_3 : (Cond.selects RX0 yX0_tryMask yX0_tryMask) ∈ lw_tbl := wsL_in_r27 _ (List.mem_of_getElem? (i := 3) rfl)
theorem mw_27_2 : (Cond.instanceMethod yX0_tryMask) ∈ lw_tbl := wsL_in_r27 _ (List.mem_of_getElem? (i := 2) rfl)
theorem memT_wsL_revel_r8 : ∀ w ∈ wsL_revel_r8, w ∈ lw_tbl := by
  unfold wsL_revel_r8
  exact (List.forall_mem_cons.mpr ⟨mw_19_5, (List.forall_mem_cons.mpr ⟨mw_19_6, (List.forall_mem_cons.mpr ⟨mw_19_7, (List.forall_mem_cons.mpr ⟨mw_19_8, (List.forall_mem_cons.mpr ⟨mw_19_9, (List.forall_mem_cons.mpr ⟨mw_19_10, (List.forall_mem_cons.mpr ⟨mw_19_11, (List.forall_mem_cons.mpr ⟨mw_19_12, (List.forall_mem_cons.mpr ⟨mw_19_13, (List.forall_mem_cons.mpr ⟨mw_19_14, (List.forall_mem_cons.mpr ⟨mw_11_19, (List.forall_mem_cons.mpr ⟨mw_19_15, (List.forall_mem_cons.mpr ⟨mw_19_16, (List.forall_mem_cons.mpr ⟨mw_19_17, (List.forall_mem_cons.mpr ⟨mw_19_18, (List.forall_mem_cons.mpr ⟨mw_14_21, (List.forall_mem_cons.mpr ⟨mw_14_22, (List.forall_mem_cons.mpr ⟨mw_14_23, (List.forall_mem_cons.mpr ⟨mw_19_19, (List.forall_mem_cons.mpr ⟨mw_19_20, (List.forall_mem_cons.mpr ⟨mw_19_21, (List.forall_mem_cons.mpr ⟨mw_19_22, (List.forall_mem_cons.mpr ⟨mw_27_2, (List.forall_mem_cons.mpr ⟨mw_27_3, (fun _ h => absurd h List.not_mem_nil)⟩)⟩)⟩)⟩)⟩)⟩)⟩)⟩)⟩)⟩)⟩)⟩)⟩)⟩)⟩)⟩)⟩)⟩)⟩)⟩)⟩)⟩)⟩)⟩)
theorem mw_27_13 : (Cond.methodLink RX0 188 yX0_payDebts) ∈ lw_tbl := wsL_in_r27 _ (List.mem_of_getElem? (i := 13) rfl)
theorem mw_27_12 : (Cond.code yX0_tryPaying cX0_tryPaying 2 (some .int)) ∈ lw_tbl := wsL_in_r27 _ (List.mem_of_getElem? (i := 12) rfl)
theorem mw_27_11 : (Cond.selects RX0 yX0_tryPaying yX0_tryPaying) ∈ lw_tbl := wsL_in_r27 _ (List.mem_of_getElem? (i := 11) rfl)
theorem mw_27_10 : (Cond.instanceMethod yX0_tryPaying) ∈ lw_tbl := wsL_in_r27 _ (List.mem_of_getElem? (i := 10) rfl)
theorem mw_27_9 : (Cond.code yX0_tryLoan cX0_tryLoan 4 (some .int)) ∈ lw_tbl := wsL_in_r27 _ (List.mem_of_getElem? (i := 9) rfl)
theorem mw_27_8 : (Cond.selects RX0 yX0_tryLoan yX0_tryLoan) ∈ lw_tbl := wsL_in_r27 _ (List.mem_of_getElem? (i := 8) rfl)
theorem mw_27_7 : (Cond.instanceMethod yX0_tryLoan) ∈ lw_tbl := wsL_in_r27 _ (List.mem_of_getElem? (i := 7) rfl)
theorem mw_27_6 : (Cond.methodLink RX0 179 yX0_takeMask) ∈ lw_tbl := wsL_in_r27 _ (List.mem_of_getElem? (i := 6) rfl)
theorem mw_27_5 : (Cond.methodLink RX0 176 yX0_reasonNoMask) ∈ lw_tbl := wsL_in_r27 _ (List.mem_of_getElem? (i := 5) rfl)
theorem mw_27_4 : (Cond.code yX0_tryMask cX0_tryMask 3 (some .int)) ∈ lw_tbl := wsL_in_r27 _ (List.mem_of_getElem? (i := 4) rfl)
theorem memT_wsL_revel_r9 : ∀ w ∈ wsL_revel_r9, w ∈ lw_tbl := by
  unfold wsL_revel_r9
  exact (List.forall_mem_cons.mpr ⟨mw_27_4, (List.forall_mem_cons.mpr ⟨mw_27_5, (List.forall_mem_cons.mpr ⟨mw_14_15, (List.forall_mem_cons.mpr ⟨mw_14_16, (List.forall_mem_cons.mpr ⟨mw_14_17, (List.forall_mem_cons.mpr ⟨mw_27_6, (List.forall_mem_cons.mpr ⟨mw_14_18, (List.forall_mem_cons.mpr ⟨mw_14_19, (List.forall_mem_cons.mpr ⟨mw_14_20, (List.forall_mem_cons.mpr ⟨mw_27_7, (List.forall_mem_cons.mpr ⟨mw_27_8, (List.forall_mem_cons.mpr ⟨mw_27_9, (List.forall_mem_cons.mpr ⟨mw_12_10, (List.forall_mem_cons.mpr ⟨mw_12_11, (List.forall_mem_cons.mpr ⟨mw_12_12, (List.forall_mem_cons.mpr ⟨mw_12_14, (List.forall_mem_cons.mpr ⟨mw_12_15, (List.forall_mem_cons.mpr ⟨mw_12_16, (List.forall_mem_cons.mpr ⟨mw_12_17, (List.forall_mem_cons.mpr ⟨mw_27_10, (List.forall_mem_cons.mpr ⟨mw_27_11, (List.forall_mem_cons.mpr ⟨mw_27_12, (List.forall_mem_cons.mpr ⟨mw_27_13, (List.forall_mem_cons.mpr ⟨mw_15_23, (fun _ h => absurd h List.not_mem_nil)⟩)⟩)⟩)⟩)⟩)⟩)⟩)⟩)⟩)⟩)⟩)⟩)⟩)⟩)⟩)⟩)⟩)⟩)⟩)⟩)⟩)⟩)⟩)⟩)
theorem memT_wsL_revel_r10 : ∀ w ∈ wsL_revel_r10, w ∈ lw_tbl := by
  unfold wsL_revel_r10
  exact (List.forall_mem_cons.mpr ⟨mw_16_0, (List.forall_mem_cons.mpr ⟨mw_16_1, (List.forall_mem_cons.mpr ⟨mw_20_23, (List.forall_mem_cons.mpr ⟨mw_21_0, (List.forall_mem_cons.mpr ⟨mw_21_1, (List.forall_mem_cons.mpr ⟨mw_21_2, (List.forall_mem_cons.mpr ⟨mw_21_3, (List.forall_mem_cons.mpr ⟨mw_12_18, (List.forall_mem_cons.mpr ⟨mw_21_4, (List.forall_mem_cons.mpr ⟨mw_21_5, (List.forall_mem_cons.mpr ⟨mw_21_6, (List.forall_mem_cons.mpr ⟨mw_21_7, (List.forall_mem_cons.mpr ⟨mw_21_8, (List.forall_mem_cons.mpr ⟨mw_21_9, (List.forall_mem_cons.mpr ⟨mw_21_10, (fun _ h => absurd h List.not_mem_nil)⟩)⟩)⟩)⟩)⟩)⟩)⟩)⟩)⟩)⟩)⟩)⟩)⟩)⟩)⟩)
theorem memT_wsL_revel : ∀ w ∈ wsL_revel, w ∈ lw_tbl := by
  unfold wsL_revel
  exact (List.forall_mem_cons.mpr ⟨mw_25_21, (List.forall_mem_append.mpr ⟨(List.forall_mem_append.mpr ⟨(List.forall_mem_append.mpr ⟨(List.forall_mem_append.mpr ⟨(List.forall_mem_append.mpr ⟨(List.forall_mem_append.mpr ⟨(List.forall_mem_append.mpr ⟨(List.forall_mem_append.mpr ⟨memT_wsL_revel_r1, (List.forall_mem_append.mpr ⟨memT_wsL_revel_r2, (List.forall_mem_append.mpr ⟨memT_wsL_revel_r3, (List.forall_mem_append.mpr ⟨memT_wsL_revel_r4, (List.forall_mem_append.mpr ⟨memT_wsL_revel_r5, (List.forall_mem_append.mpr ⟨memT_wsL_revel_r6, (List.forall_mem_append.mpr ⟨memT_wsL_revel_r7, (List.forall_mem_append.mpr ⟨memT_wsL_revel_r8, (List.forall_mem_append.mpr ⟨memT_wsL_revel_r9, memT_wsL_revel_r10⟩)⟩)⟩)⟩)⟩)⟩)⟩)⟩)⟩), inX5⟩), inX4⟩), inX2⟩), inX0⟩), inX1⟩), inX3⟩), wsL_law__x0⟩)⟩)
theorem mw_25_20 : (Cond.static yL_revel) ∈ lw_tbl := wsL_in_r25 _ (List.mem_of_getElem? (i := 20) rfl)
theorem mw_25_19 : (Cond.methodLink RL 149 yL_revel) ∈ lw_tbl := wsL_in_r25 _ (List.mem_of_getElem? (i := 19) rfl)
set_option maxRecDepth 20000 in
theorem gT_L_revel : GoodIn lw_tbl (va_wsS RL 149 yL_revel wsL_revel) := goodIn_sub (by
  unfold va_wsS
  exact List.forall_mem_append.mpr ⟨(List.forall_mem_cons.mpr ⟨mw_25_19, (List.forall_mem_cons.mpr ⟨mw_25_20, (List.forall_mem_cons.mpr ⟨mw_4_14, (fun _ h => absurd h List.not_mem_nil)⟩)⟩)⟩), memT_wsL_revel⟩) (by decide +kernel)
theorem mw_27_17 : (Cond.code yX6_revel cX6_revel 3 (some .int)) ∈ lw_tbl := wsL_in_r27 _ (List.mem_of_getElem? (i := 17) rfl)
theorem memT_wsX6_revel_r1 : ∀ w ∈ wsX6_revel_r1, w ∈ lw_tbl := by
  unfold wsX6_revel_r1
  exact (List.forall_mem_cons.mpr ⟨mw_4_9, (List.forall_mem_cons.mpr ⟨mw_24_15, (List.forall_mem_cons.mpr ⟨mw_23_3, (List.forall_mem_cons.mpr ⟨mw_24_16, (List.forall_mem_cons.mpr ⟨mw_24_17, (List.forall_mem_cons.mpr ⟨mw_24_18, (List.forall_mem_cons.mpr ⟨mw_1_5, (List.forall_mem_cons.mpr ⟨mw_24_19, (List.forall_mem_cons.mpr ⟨mw_24_20, (List.forall_mem_cons.mpr ⟨mw_24_21, (List.forall_mem_cons.mpr ⟨mw_24_22, (List.forall_mem_cons.mpr ⟨mw_24_23, (List.forall_mem_cons.mpr ⟨mw_25_0, (List.forall_mem_cons.mpr ⟨mw_25_1, (List.forall_mem_cons.mpr ⟨mw_25_2, (List.forall_mem_cons.mpr ⟨mw_25_3, (List.forall_mem_cons.mpr ⟨mw_25_4, (List.forall_mem_cons.mpr ⟨mw_25_5, (List.forall_mem_cons.mpr ⟨mw_25_6, (List.forall_mem_cons.mpr ⟨mw_4_10, (List.forall_mem_cons.mpr ⟨mw_25_7, (List.forall_mem_cons.mpr ⟨mw_25_8, (List.forall_mem_cons.mpr ⟨mw_25_9, (List.forall_mem_cons.mpr ⟨mw_25_10, (fun _ h => absurd h List.not_mem_nil)⟩)⟩)⟩)⟩)⟩)⟩)⟩)⟩)⟩)⟩)⟩)⟩)⟩)⟩)⟩)⟩)⟩)⟩)⟩)⟩)⟩)⟩)⟩)⟩)
theorem memT_wsX6_revel_r2 : ∀ w ∈ wsX6_revel_r2, w ∈ lw_tbl := by
  unfold wsX6_revel_r2
  exact (List.forall_mem_cons.mpr ⟨mw_25_11, (List.forall_mem_cons.mpr ⟨mw_25_12, (List.forall_mem_cons.mpr ⟨mw_25_13, (List.forall_mem_cons.mpr ⟨mw_25_14, (List.forall_mem_cons.mpr ⟨mw_7_1, (List.forall_mem_cons.mpr ⟨mw_7_2, (List.forall_mem_cons.mpr ⟨mw_7_3, (List.forall_mem_cons.mpr ⟨mw_25_15, (List.forall_mem_cons.mpr ⟨mw_25_16, (List.forall_mem_cons.mpr ⟨mw_25_17, (List.forall_mem_cons.mpr ⟨mw_25_18, (List.forall_mem_cons.mpr ⟨mw_7_4, (List.forall_mem_cons.mpr ⟨mw_7_5, (List.forall_mem_cons.mpr ⟨mw_7_6, (List.forall_mem_cons.mpr ⟨mw_7_7, (List.forall_mem_cons.mpr ⟨mw_7_8, (List.forall_mem_cons.mpr ⟨mw_7_9, (List.forall_mem_cons.mpr ⟨mw_7_10, (List.forall_mem_cons.mpr ⟨mw_7_11, (List.forall_mem_cons.mpr ⟨mw_7_12, (List.forall_mem_cons.mpr ⟨mw_7_13, (List.forall_mem_cons.mpr ⟨mw_7_14, (List.forall_mem_cons.mpr ⟨mw_7_15, (List.forall_mem_cons.mpr ⟨mw_7_16, (fun _ h => absurd h List.not_mem_nil)⟩)⟩)⟩)⟩)⟩)⟩)⟩)⟩)⟩)⟩)⟩)⟩)⟩)⟩)⟩)⟩)⟩)⟩)⟩)⟩)⟩)⟩)⟩)⟩)
theorem mw_27_21 : (Cond.code yX6_stops cX6_stops 2 (some .int)) ∈ lw_tbl := wsL_in_r27 _ (List.mem_of_getElem? (i := 21) rfl)
theorem mw_27_20 : (Cond.selects RX6 yX6_stops yX6_stops) ∈ lw_tbl := wsL_in_r27 _ (List.mem_of_getElem? (i := 20) rfl)
theorem mw_27_19 : (Cond.instanceMethod yX6_stops) ∈ lw_tbl := wsL_in_r27 _ (List.mem_of_getElem? (i := 19) rfl)
theorem mw_27_18 : (Cond.methodLink RX6 155 yX6_stops) ∈ lw_tbl := wsL_in_r27 _ (List.mem_of_getElem? (i := 18) rfl)
theorem memT_wsX6_revel_r3 : ∀ w ∈ wsX6_revel_r3, w ∈ lw_tbl := by
  unfold wsX6_revel_r3
  exact (List.forall_mem_cons.mpr ⟨mw_7_17, (List.forall_mem_cons.mpr ⟨mw_27_18, (List.forall_mem_cons.mpr ⟨mw_27_19, (List.forall_mem_cons.mpr ⟨mw_27_20, (List.forall_mem_cons.mpr ⟨mw_27_21, (List.forall_mem_cons.mpr ⟨mw_10_9, (List.forall_mem_cons.mpr ⟨mw_10_10, (List.forall_mem_cons.mpr ⟨mw_10_11, (List.forall_mem_cons.mpr ⟨mw_10_12, (List.forall_mem_cons.mpr ⟨mw_17_12, (List.forall_mem_cons.mpr ⟨mw_17_13, (List.forall_mem_cons.mpr ⟨mw_17_14, (List.forall_mem_cons.mpr ⟨mw_17_15, (List.forall_mem_cons.mpr ⟨mw_10_13, (List.forall_mem_cons.mpr ⟨mw_10_14, (List.forall_mem_cons.mpr ⟨mw_10_15, (List.forall_mem_cons.mpr ⟨mw_10_16, (List.forall_mem_cons.mpr ⟨mw_10_21, (List.forall_mem_cons.mpr ⟨mw_10_22, (List.forall_mem_cons.mpr ⟨mw_10_23, (List.forall_mem_cons.mpr ⟨mw_11_0, (List.forall_mem_cons.mpr ⟨mw_11_1, (List.forall_mem_cons.mpr ⟨mw_11_2, (List.forall_mem_cons.mpr ⟨mw_11_3, (fun _ h => absurd h List.not_mem_nil)⟩)⟩)⟩)⟩)⟩)⟩)⟩)⟩)⟩)⟩)⟩)⟩)⟩)⟩)⟩)⟩)⟩)⟩)⟩)⟩)⟩)⟩)⟩)⟩)
theorem mw_28_1 : (Cond.code yX6_happens cX6_happens 2 none) ∈ lw_tbl := wsL_in_r28 _ (List.mem_of_getElem? (i := 1) rfl)
theorem mw_28_0 : (Cond.selects RX6 yX6_happens yX6_happens) ∈ lw_tbl := wsL_in_r28 _ (List.mem_of_getElem? (i := 0) rfl)
theorem mw_27_23 : (Cond.instanceMethod yX6_happens) ∈ lw_tbl := wsL_in_r27 _ (List.mem_of_getElem? (i := 23) rfl)
theorem mw_27_22 : (Cond.methodLink RX6 158 yX6_happens) ∈ lw_tbl := wsL_in_r27 _ (List.mem_of_getElem? (i := 22) rfl)
theorem memT_wsX6_revel_r4 : ∀ w ∈ wsX6_revel_r4, w ∈ lw_tbl := by
  unfold wsX6_revel_r4
  exact (List.forall_mem_cons.mpr ⟨mw_11_4, (List.forall_mem_cons.mpr ⟨mw_11_5, (List.forall_mem_cons.mpr ⟨mw_11_6, (List.forall_mem_cons.mpr ⟨mw_11_7, (List.forall_mem_cons.mpr ⟨mw_11_8, (List.forall_mem_cons.mpr ⟨mw_15_4, (List.forall_mem_cons.mpr ⟨mw_15_5, (List.forall_mem_cons.mpr ⟨mw_15_6, (List.forall_mem_cons.mpr ⟨mw_15_7, (List.forall_mem_cons.mpr ⟨mw_12_23, (List.forall_mem_cons.mpr ⟨mw_13_0, (List.forall_mem_cons.mpr ⟨mw_13_1, (List.forall_mem_cons.mpr ⟨mw_13_2, (List.forall_mem_cons.mpr ⟨mw_13_3, (List.forall_mem_cons.mpr ⟨mw_13_4, (List.forall_mem_cons.mpr ⟨mw_13_5, (List.forall_mem_cons.mpr ⟨mw_13_6, (List.forall_mem_cons.mpr ⟨mw_27_22, (List.forall_mem_cons.mpr ⟨mw_27_23, (List.forall_mem_cons.mpr ⟨mw_28_0, (List.forall_mem_cons.mpr ⟨mw_28_1, (List.forall_mem_cons.mpr ⟨mw_17_16, (List.forall_mem_cons.mpr ⟨mw_17_17, (List.forall_mem_cons.mpr ⟨mw_17_18, (fun _ h => absurd h List.not_mem_nil)⟩)⟩)⟩)⟩)⟩)⟩)⟩)⟩)⟩)⟩)⟩)⟩)⟩)⟩)⟩)⟩)⟩)⟩)⟩)⟩)⟩)⟩)⟩)⟩)
theorem memT_wsX6_revel_r5 : ∀ w ∈ wsX6_revel_r5, w ∈ lw_tbl := by
  unfold wsX6_revel_r5
  exact (List.forall_mem_cons.mpr ⟨mw_17_19, (List.forall_mem_cons.mpr ⟨mw_20_3, (List.forall_mem_cons.mpr ⟨mw_20_4, (List.forall_mem_cons.mpr ⟨mw_20_5, (List.forall_mem_cons.mpr ⟨mw_20_6, (List.forall_mem_cons.mpr ⟨mw_4_11, (List.forall_mem_cons.mpr ⟨mw_20_7, (List.forall_mem_cons.mpr ⟨mw_20_8, (List.forall_mem_cons.mpr ⟨mw_20_9, (List.forall_mem_cons.mpr ⟨mw_20_10, (List.forall_mem_cons.mpr ⟨mw_20_11, (List.forall_mem_cons.mpr ⟨mw_20_12, (List.forall_mem_cons.mpr ⟨mw_20_13, (List.forall_mem_cons.mpr ⟨mw_20_14, (List.forall_mem_cons.mpr ⟨mw_20_15, (List.forall_mem_cons.mpr ⟨mw_20_16, (List.forall_mem_cons.mpr ⟨mw_20_17, (List.forall_mem_cons.mpr ⟨mw_20_18, (List.forall_mem_cons.mpr ⟨mw_12_0, (List.forall_mem_cons.mpr ⟨mw_12_1, (List.forall_mem_cons.mpr ⟨mw_12_2, (List.forall_mem_cons.mpr ⟨mw_15_12, (List.forall_mem_cons.mpr ⟨mw_15_13, (List.forall_mem_cons.mpr ⟨mw_15_14, (fun _ h => absurd h List.not_mem_nil)⟩)⟩)⟩)⟩)⟩)⟩)⟩)⟩)⟩)⟩)⟩)⟩)⟩)⟩)⟩)⟩)⟩)⟩)⟩)⟩)⟩)⟩)⟩)⟩)
theorem memT_wsX6_revel_r6 : ∀ w ∈ wsX6_revel_r6, w ∈ lw_tbl := by
  unfold wsX6_revel_r6
  exact (List.forall_mem_cons.mpr ⟨mw_15_15, (List.forall_mem_cons.mpr ⟨mw_7_18, (List.forall_mem_cons.mpr ⟨mw_7_19, (List.forall_mem_cons.mpr ⟨mw_7_20, (List.forall_mem_cons.mpr ⟨mw_7_21, (List.forall_mem_cons.mpr ⟨mw_15_8, (List.forall_mem_cons.mpr ⟨mw_15_9, (List.forall_mem_cons.mpr ⟨mw_15_10, (List.forall_mem_cons.mpr ⟨mw_15_11, (List.forall_mem_cons.mpr ⟨mw_13_7, (List.forall_mem_cons.mpr ⟨mw_13_8, (List.forall_mem_cons.mpr ⟨mw_13_9, (List.forall_mem_cons.mpr ⟨mw_13_10, (List.forall_mem_cons.mpr ⟨mw_16_6, (List.forall_mem_cons.mpr ⟨mw_16_7, (List.forall_mem_cons.mpr ⟨mw_16_8, (List.forall_mem_cons.mpr ⟨mw_16_9, (List.forall_mem_cons.mpr ⟨mw_21_15, (List.forall_mem_cons.mpr ⟨mw_21_16, (List.forall_mem_cons.mpr ⟨mw_21_17, (List.forall_mem_cons.mpr ⟨mw_21_18, (fun _ h => absurd h List.not_mem_nil)⟩)⟩)⟩)⟩)⟩)⟩)⟩)⟩)⟩)⟩)⟩)⟩)⟩)⟩)⟩)⟩)⟩)⟩)⟩)⟩)⟩)
theorem memT_wsX6_revel : ∀ w ∈ wsX6_revel, w ∈ lw_tbl := by
  unfold wsX6_revel
  exact (List.forall_mem_cons.mpr ⟨mw_27_17, (List.forall_mem_append.mpr ⟨(List.forall_mem_append.mpr ⟨memT_wsX6_revel_r1, (List.forall_mem_append.mpr ⟨memT_wsX6_revel_r2, (List.forall_mem_append.mpr ⟨memT_wsX6_revel_r3, (List.forall_mem_append.mpr ⟨memT_wsX6_revel_r4, (List.forall_mem_append.mpr ⟨memT_wsX6_revel_r5, memT_wsX6_revel_r6⟩)⟩)⟩)⟩)⟩), inX6⟩)⟩)
theorem mw_27_16 : (Cond.selects RX6 yX6_revel yX6_revel) ∈ lw_tbl := wsL_in_r27 _ (List.mem_of_getElem? (i := 16) rfl)
theorem mw_27_15 : (Cond.instanceMethod yX6_revel) ∈ lw_tbl := wsL_in_r27 _ (List.mem_of_getElem? (i := 15) rfl)
theorem mw_27_14 : (Cond.methodLink RL 152 yX6_revel) ∈ lw_tbl := wsL_in_r27 _ (List.mem_of_getElem? (i := 14) rfl)
set_option maxRecDepth 20000 in
theorem gT_X6_revel : GoodIn lw_tbl (wsV RL 152 RX6 yX6_revel wsX6_revel) := goodIn_sub (by
  unfold wsV
  exact List.forall_mem_append.mpr ⟨(List.forall_mem_cons.mpr ⟨mw_27_14, (List.forall_mem_cons.mpr ⟨mw_27_15, (List.forall_mem_cons.mpr ⟨mw_27_16, (List.forall_mem_cons.mpr ⟨mw_1_5, (fun _ h => absurd h List.not_mem_nil)⟩)⟩)⟩)⟩), memT_wsX6_revel⟩) (by decide +kernel)
theorem mw_28_4 : (Cond.codeWith yL_stopped cL_stopped 4 (some .int) [(0, 9, 12, 13)]) ∈ lw_tbl := wsL_in_r28 _ (List.mem_of_getElem? (i := 4) rfl)
theorem mw_28_11 : (Cond.code yX0_stopNumber cX0_stopNumber 2 (some .int)) ∈ lw_tbl := wsL_in_r28 _ (List.mem_of_getElem? (i := 11) rfl)
theorem mw_28_10 : (Cond.selects RX0 yX0_stopNumber yX0_stopNumber) ∈ lw_tbl := wsL_in_r28 _ (List.mem_of_getElem? (i := 10) rfl)
theorem mw_28_9 : (Cond.instanceMethod yX0_stopNumber) ∈ lw_tbl := wsL_in_r28 _ (List.mem_of_getElem? (i := 9) rfl)
theorem mw_28_8 : (Cond.code yX5_stopped cX5_stopped 2 (some .int)) ∈ lw_tbl := wsL_in_r28 _ (List.mem_of_getElem? (i := 8) rfl)
theorem mw_28_7 : (Cond.selects RX5 yX5_stopped yX5_stopped) ∈ lw_tbl := wsL_in_r28 _ (List.mem_of_getElem? (i := 7) rfl)
theorem mw_28_6 : (Cond.instanceMethod yX5_stopped) ∈ lw_tbl := wsL_in_r28 _ (List.mem_of_getElem? (i := 6) rfl)
theorem mw_28_5 : (Cond.methodLink RL 55 yX5_stopped) ∈ lw_tbl := wsL_in_r28 _ (List.mem_of_getElem? (i := 5) rfl)
theorem memT_wsL_stopped : ∀ w ∈ wsL_stopped, w ∈ lw_tbl := by
  unfold wsL_stopped
  exact (List.forall_mem_cons.mpr ⟨mw_28_4, (List.forall_mem_append.mpr ⟨(List.forall_mem_append.mpr ⟨(List.forall_mem_append.mpr ⟨(List.forall_mem_cons.mpr ⟨mw_4_16, (List.forall_mem_cons.mpr ⟨mw_28_5, (List.forall_mem_cons.mpr ⟨mw_28_6, (List.forall_mem_cons.mpr ⟨mw_28_7, (List.forall_mem_cons.mpr ⟨mw_1_2, (List.forall_mem_cons.mpr ⟨mw_28_8, (List.forall_mem_cons.mpr ⟨mw_1_16, (List.forall_mem_cons.mpr ⟨mw_4_22, (List.forall_mem_cons.mpr ⟨mw_4_23, (List.forall_mem_cons.mpr ⟨mw_5_0, (List.forall_mem_cons.mpr ⟨mw_5_1, (List.forall_mem_cons.mpr ⟨mw_5_2, (List.forall_mem_cons.mpr ⟨mw_5_3, (List.forall_mem_cons.mpr ⟨mw_5_4, (List.forall_mem_cons.mpr ⟨mw_5_5, (List.forall_mem_cons.mpr ⟨mw_28_9, (List.forall_mem_cons.mpr ⟨mw_1_15, (List.forall_mem_cons.mpr ⟨mw_28_10, (List.forall_mem_cons.mpr ⟨mw_28_11, (List.forall_mem_cons.mpr ⟨mw_2_16, (List.forall_mem_cons.mpr ⟨mw_2_17, (fun _ h => absurd h List.not_mem_nil)⟩)⟩)⟩)⟩)⟩)⟩)⟩)⟩)⟩)⟩)⟩)⟩)⟩)⟩)⟩)⟩)⟩)⟩)⟩)⟩)⟩), inX5⟩), inX0⟩), wsL_law__x0⟩)⟩)
theorem mw_28_3 : (Cond.static yL_stopped) ∈ lw_tbl := wsL_in_r28 _ (List.mem_of_getElem? (i := 3) rfl)
theorem mw_28_2 : (Cond.methodLink RL 153 yL_stopped) ∈ lw_tbl := wsL_in_r28 _ (List.mem_of_getElem? (i := 2) rfl)
set_option maxRecDepth 20000 in
theorem gT_L_stopped : GoodIn lw_tbl (va_wsS RL 153 yL_stopped wsL_stopped) := goodIn_sub (by
  unfold va_wsS
  exact List.forall_mem_append.mpr ⟨(List.forall_mem_cons.mpr ⟨mw_28_2, (List.forall_mem_cons.mpr ⟨mw_28_3, (List.forall_mem_cons.mpr ⟨mw_4_14, (fun _ h => absurd h List.not_mem_nil)⟩)⟩)⟩), memT_wsL_stopped⟩) (by decide +kernel)
theorem mw_28_15 : (Cond.code yX6_stopped cX6_stopped 2 (some .int)) ∈ lw_tbl := wsL_in_r28 _ (List.mem_of_getElem? (i := 15) rfl)
theorem memT_wsX6_stopped : ∀ w ∈ wsX6_stopped, w ∈ lw_tbl := by
  unfold wsX6_stopped
  exact (List.forall_mem_cons.mpr ⟨mw_28_15, (List.forall_mem_append.mpr ⟨(List.forall_mem_cons.mpr ⟨mw_4_9, (List.forall_mem_cons.mpr ⟨mw_7_1, (List.forall_mem_cons.mpr ⟨mw_7_2, (List.forall_mem_cons.mpr ⟨mw_1_5, (List.forall_mem_cons.mpr ⟨mw_7_3, (List.forall_mem_cons.mpr ⟨mw_7_4, (List.forall_mem_cons.mpr ⟨mw_7_5, (List.forall_mem_cons.mpr ⟨mw_7_6, (List.forall_mem_cons.mpr ⟨mw_7_7, (List.forall_mem_cons.mpr ⟨mw_7_8, (fun _ h => absurd h List.not_mem_nil)⟩)⟩)⟩)⟩)⟩)⟩)⟩)⟩)⟩)⟩), inX6⟩)⟩)
theorem mw_28_14 : (Cond.selects RX6 yX6_stopped yX6_stopped) ∈ lw_tbl := wsL_in_r28 _ (List.mem_of_getElem? (i := 14) rfl)
theorem mw_28_13 : (Cond.instanceMethod yX6_stopped) ∈ lw_tbl := wsL_in_r28 _ (List.mem_of_getElem? (i := 13) rfl)
theorem mw_28_12 : (Cond.methodLink RL 155 yX6_stopped) ∈ lw_tbl := wsL_in_r28 _ (List.mem_of_getElem? (i := 12) rfl)
set_option maxRecDepth 20000 in
theorem gT_X6_stopped : GoodIn lw_tbl (wsV RL 155 RX6 yX6_stopped wsX6_stopped) := goodIn_sub (by
  unfold wsV
  exact List.forall_mem_append.mpr ⟨(List.forall_mem_cons.mpr ⟨mw_28_12, (List.forall_mem_cons.mpr ⟨mw_28_13, (List.forall_mem_cons.mpr ⟨mw_28_14, (List.forall_mem_cons.mpr ⟨mw_1_5, (fun _ h => absurd h List.not_mem_nil)⟩)⟩)⟩)⟩), memT_wsX6_stopped⟩) (by decide +kernel)
theorem mw_28_18 : (Cond.codeWith yL_undo cL_undo 3 (some .int) [(0, 8, 11, 15)]) ∈ lw_tbl := wsL_in_r28 _ (List.mem_of_getElem? (i := 18) rfl)
theorem mw_29_1 : (Cond.code yX2_bringBack cX2_bringBack 3 none) ∈ lw_tbl := wsL_in_r29 _ (List.mem_of_getElem? (i := 1) rfl)
theorem mw_29_0 : (Cond.selects RX2 yX2_bringBack yX2_bringBack) ∈ lw_tbl := wsL_in_r29 _ (List.mem_of_getElem? (i := 0) rfl)
theorem mw_28_23 : (Cond.instanceMethod yX2_bringBack) ∈ lw_tbl := wsL_in_r28 _ (List.mem_of_getElem? (i := 23) rfl)
theorem mw_28_22 : (Cond.code yX5_undo cX5_undo 1 (some .int)) ∈ lw_tbl := wsL_in_r28 _ (List.mem_of_getElem? (i := 22) rfl)
theorem mw_28_21 : (Cond.selects RX5 yX5_undo yX5_undo) ∈ lw_tbl := wsL_in_r28 _ (List.mem_of_getElem? (i := 21) rfl)
theorem mw_28_20 : (Cond.instanceMethod yX5_undo) ∈ lw_tbl := wsL_in_r28 _ (List.mem_of_getElem? (i := 20) rfl)
theorem mw_28_19 : (Cond.methodLink RL 58 yX5_undo) ∈ lw_tbl := wsL_in_r28 _ (List.mem_of_getElem? (i := 19) rfl)
theorem memT_wsL_undo_r1 : ∀ w ∈ wsL_undo_r1, w ∈ lw_tbl := by
  unfold wsL_undo_r1
  exact (List.forall_mem_cons.mpr ⟨mw_4_17, (List.forall_mem_cons.mpr ⟨mw_28_19, (List.forall_mem_cons.mpr ⟨mw_28_20, (List.forall_mem_cons.mpr ⟨mw_28_21, (List.forall_mem_cons.mpr ⟨mw_1_2, (List.forall_mem_cons.mpr ⟨mw_28_22, (List.forall_mem_cons.mpr ⟨mw_1_21, (List.forall_mem_cons.mpr ⟨mw_1_16, (List.forall_mem_cons.mpr ⟨mw_5_6, (List.forall_mem_cons.mpr ⟨mw_5_7, (List.forall_mem_cons.mpr ⟨mw_5_8, (List.forall_mem_cons.mpr ⟨mw_5_9, (List.forall_mem_cons.mpr ⟨mw_5_10, (List.forall_mem_cons.mpr ⟨mw_28_23, (List.forall_mem_cons.mpr ⟨mw_1_20, (List.forall_mem_cons.mpr ⟨mw_29_0, (List.forall_mem_cons.mpr ⟨mw_29_1, (List.forall_mem_cons.mpr ⟨mw_5_14, (List.forall_mem_cons.mpr ⟨mw_5_16, (List.forall_mem_cons.mpr ⟨mw_5_17, (List.forall_mem_cons.mpr ⟨mw_5_18, (List.forall_mem_cons.mpr ⟨mw_5_19, (List.forall_mem_cons.mpr ⟨mw_5_15, (List.forall_mem_cons.mpr ⟨mw_4_0, (fun _ h => absurd h List.not_mem_nil)⟩)⟩)⟩)⟩)⟩)⟩)⟩)⟩)⟩)⟩)⟩)⟩)⟩)⟩)⟩)⟩)⟩)⟩)⟩)⟩)⟩)⟩)⟩)⟩)
theorem memT_wsL_undo_r2 : ∀ w ∈ wsL_undo_r2, w ∈ lw_tbl := by
  unfold wsL_undo_r2
  exact (List.forall_mem_cons.mpr ⟨mw_5_20, (List.forall_mem_cons.mpr ⟨mw_1_15, (List.forall_mem_cons.mpr ⟨mw_5_21, (List.forall_mem_cons.mpr ⟨mw_5_22, (List.forall_mem_cons.mpr ⟨mw_2_9, (List.forall_mem_cons.mpr ⟨mw_2_13, (List.forall_mem_cons.mpr ⟨mw_2_15, (List.forall_mem_cons.mpr ⟨mw_5_23, (List.forall_mem_cons.mpr ⟨mw_6_0, (List.forall_mem_cons.mpr ⟨mw_6_1, (List.forall_mem_cons.mpr ⟨mw_6_2, (List.forall_mem_cons.mpr ⟨mw_6_3, (List.forall_mem_cons.mpr ⟨mw_6_4, (List.forall_mem_cons.mpr ⟨mw_6_5, (List.forall_mem_cons.mpr ⟨mw_2_16, (List.forall_mem_cons.mpr ⟨mw_2_17, (List.forall_mem_cons.mpr ⟨mw_6_6, (List.forall_mem_cons.mpr ⟨mw_2_8, (List.forall_mem_cons.mpr ⟨mw_6_7, (List.forall_mem_cons.mpr ⟨mw_6_8, (List.forall_mem_cons.mpr ⟨mw_2_21, (List.forall_mem_cons.mpr ⟨mw_2_22, (List.forall_mem_cons.mpr ⟨mw_2_23, (List.forall_mem_cons.mpr ⟨mw_3_0, (fun _ h => absurd h List.not_mem_nil)⟩)⟩)⟩)⟩)⟩)⟩)⟩)⟩)⟩)⟩)⟩)⟩)⟩)⟩)⟩)⟩)⟩)⟩)⟩)⟩)⟩)⟩)⟩)⟩)
theorem memT_wsL_undo_r3 : ∀ w ∈ wsL_undo_r3, w ∈ lw_tbl := by
  unfold wsL_undo_r3
  exact (List.forall_mem_cons.mpr ⟨mw_3_1, (List.forall_mem_cons.mpr ⟨mw_3_2, (List.forall_mem_cons.mpr ⟨mw_3_3, (List.forall_mem_cons.mpr ⟨mw_3_4, (List.forall_mem_cons.mpr ⟨mw_6_9, (List.forall_mem_cons.mpr ⟨mw_3_10, (List.forall_mem_cons.mpr ⟨mw_3_11, (List.forall_mem_cons.mpr ⟨mw_3_12, (List.forall_mem_cons.mpr ⟨mw_3_13, (List.forall_mem_cons.mpr ⟨mw_3_14, (List.forall_mem_cons.mpr ⟨mw_3_15, (List.forall_mem_cons.mpr ⟨mw_3_16, (List.forall_mem_cons.mpr ⟨mw_3_17, (List.forall_mem_cons.mpr ⟨mw_3_18, (List.forall_mem_cons.mpr ⟨mw_3_19, (List.forall_mem_cons.mpr ⟨mw_6_10, (List.forall_mem_cons.mpr ⟨mw_2_12, (List.forall_mem_cons.mpr ⟨mw_6_11, (List.forall_mem_cons.mpr ⟨mw_6_12, (List.forall_mem_cons.mpr ⟨mw_3_8, (List.forall_mem_cons.mpr ⟨mw_3_9, (fun _ h => absurd h List.not_mem_nil)⟩)⟩)⟩)⟩)⟩)⟩)⟩)⟩)⟩)⟩)⟩)⟩)⟩)⟩)⟩)⟩)⟩)⟩)⟩)⟩)⟩)
theorem memT_wsL_undo : ∀ w ∈ wsL_undo, w ∈ lw_tbl := by
  unfold wsL_undo
  exact (List.forall_mem_cons.mpr ⟨mw_28_18, (List.forall_mem_append.mpr ⟨(List.forall_mem_append.mpr ⟨(List.forall_mem_append.mpr ⟨(List.forall_mem_append.mpr ⟨(List.forall_mem_append.mpr ⟨(List.forall_mem_append.mpr ⟨(List.forall_mem_append.mpr ⟨memT_wsL_undo_r1, (List.forall_mem_append.mpr ⟨memT_wsL_undo_r2, memT_wsL_undo_r3⟩)⟩), inX5⟩), inX2⟩), inX0⟩), inX1⟩), inX3⟩), wsL_law__x1⟩)⟩)
theorem mw_28_17 : (Cond.static yL_undo) ∈ lw_tbl := wsL_in_r28 _ (List.mem_of_getElem? (i := 17) rfl)
theorem mw_28_16 : (Cond.methodLink RL 156 yL_undo) ∈ lw_tbl := wsL_in_r28 _ (List.mem_of_getElem? (i := 16) rfl)
set_option maxRecDepth 20000 in
theorem gT_L_undo : GoodIn lw_tbl (va_wsS RL 156 yL_undo wsL_undo) := goodIn_sub (by
  unfold va_wsS
  exact List.forall_mem_append.mpr ⟨(List.forall_mem_cons.mpr ⟨mw_28_16, (List.forall_mem_cons.mpr ⟨mw_28_17, (List.forall_mem_cons.mpr ⟨mw_4_14, (fun _ h => absurd h List.not_mem_nil)⟩)⟩)⟩), memT_wsL_undo⟩) (by decide +kernel)
theorem mw_29_5 : (Cond.code yX6_undo cX6_undo 1 (some .int)) ∈ lw_tbl := wsL_in_r29 _ (List.mem_of_getElem? (i := 5) rfl)
theorem memT_wsX6_undo : ∀ w ∈ wsX6_undo, w ∈ lw_tbl := by
  unfold wsX6_undo
  exact (List.forall_mem_cons.mpr ⟨mw_29_5, (List.forall_mem_append.mpr ⟨(List.forall_mem_cons.mpr ⟨mw_7_13, (List.forall_mem_cons.mpr ⟨mw_7_4, (List.forall_mem_cons.mpr ⟨mw_7_5, (List.forall_mem_cons.mpr ⟨mw_7_6, (List.forall_mem_cons.mpr ⟨mw_1_5, (List.forall_mem_cons.mpr ⟨mw_7_7, (List.forall_mem_cons.mpr ⟨mw_7_8, (List.forall_mem_cons.mpr ⟨mw_7_14, (List.forall_mem_cons.mpr ⟨mw_7_15, (List.forall_mem_cons.mpr ⟨mw_7_16, (List.forall_mem_cons.mpr ⟨mw_7_17, (List.forall_mem_cons.mpr ⟨mw_4_9, (fun _ h => absurd h List.not_mem_nil)⟩)⟩)⟩)⟩)⟩)⟩)⟩)⟩)⟩)⟩)⟩)⟩), inX6⟩)⟩)
theorem mw_29_4 : (Cond.selects RX6 yX6_undo yX6_undo) ∈ lw_tbl := wsL_in_r29 _ (List.mem_of_getElem? (i := 4) rfl)
theorem mw_29_3 : (Cond.instanceMethod yX6_undo) ∈ lw_tbl := wsL_in_r29 _ (List.mem_of_getElem? (i := 3) rfl)
theorem mw_29_2 : (Cond.methodLink RL 158 yX6_undo) ∈ lw_tbl := wsL_in_r29 _ (List.mem_of_getElem? (i := 2) rfl)
set_option maxRecDepth 20000 in
theorem gT_X6_undo : GoodIn lw_tbl (wsV RL 158 RX6 yX6_undo wsX6_undo) := goodIn_sub (by
  unfold wsV
  exact List.forall_mem_append.mpr ⟨(List.forall_mem_cons.mpr ⟨mw_29_2, (List.forall_mem_cons.mpr ⟨mw_29_3, (List.forall_mem_cons.mpr ⟨mw_29_4, (List.forall_mem_cons.mpr ⟨mw_1_5, (fun _ h => absurd h List.not_mem_nil)⟩)⟩)⟩)⟩), memT_wsX6_undo⟩) (by decide +kernel)
theorem mw_29_9 : (Cond.code yX5_keep cX5_keep 1 (some .int)) ∈ lw_tbl := wsL_in_r29 _ (List.mem_of_getElem? (i := 9) rfl)
theorem memT_wsX5_keep_r1 : ∀ w ∈ wsX5_keep_r1, w ∈ lw_tbl := by
  unfold wsX5_keep_r1
  exact (List.forall_mem_cons.mpr ⟨mw_1_17, (List.forall_mem_cons.mpr ⟨mw_1_16, (List.forall_mem_cons.mpr ⟨mw_2_2, (List.forall_mem_cons.mpr ⟨mw_5_20, (List.forall_mem_cons.mpr ⟨mw_1_15, (List.forall_mem_cons.mpr ⟨mw_5_21, (List.forall_mem_cons.mpr ⟨mw_5_22, (List.forall_mem_cons.mpr ⟨mw_2_9, (List.forall_mem_cons.mpr ⟨mw_2_13, (List.forall_mem_cons.mpr ⟨mw_2_15, (List.forall_mem_cons.mpr ⟨mw_5_23, (List.forall_mem_cons.mpr ⟨mw_6_0, (List.forall_mem_cons.mpr ⟨mw_6_1, (List.forall_mem_cons.mpr ⟨mw_6_2, (List.forall_mem_cons.mpr ⟨mw_6_3, (List.forall_mem_cons.mpr ⟨mw_6_4, (List.forall_mem_cons.mpr ⟨mw_6_5, (List.forall_mem_cons.mpr ⟨mw_2_16, (List.forall_mem_cons.mpr ⟨mw_2_17, (List.forall_mem_cons.mpr ⟨mw_6_6, (List.forall_mem_cons.mpr ⟨mw_2_8, (List.forall_mem_cons.mpr ⟨mw_6_7, (List.forall_mem_cons.mpr ⟨mw_6_8, (List.forall_mem_cons.mpr ⟨mw_2_21, (fun _ h => absurd h List.not_mem_nil)⟩)⟩)⟩)⟩)⟩)⟩)⟩)⟩)⟩)⟩)⟩)⟩)⟩)⟩)⟩)⟩)⟩)⟩)⟩)⟩)⟩)⟩)⟩)⟩)
theorem memT_wsX5_keep_r2 : ∀ w ∈ wsX5_keep_r2, w ∈ lw_tbl := by
  unfold wsX5_keep_r2
  exact (List.forall_mem_cons.mpr ⟨mw_2_22, (List.forall_mem_cons.mpr ⟨mw_2_23, (List.forall_mem_cons.mpr ⟨mw_3_0, (List.forall_mem_cons.mpr ⟨mw_3_1, (List.forall_mem_cons.mpr ⟨mw_3_2, (List.forall_mem_cons.mpr ⟨mw_3_3, (List.forall_mem_cons.mpr ⟨mw_3_4, (List.forall_mem_cons.mpr ⟨mw_6_9, (List.forall_mem_cons.mpr ⟨mw_3_10, (List.forall_mem_cons.mpr ⟨mw_1_2, (List.forall_mem_cons.mpr ⟨mw_3_11, (List.forall_mem_cons.mpr ⟨mw_3_12, (List.forall_mem_cons.mpr ⟨mw_3_13, (List.forall_mem_cons.mpr ⟨mw_3_14, (List.forall_mem_cons.mpr ⟨mw_3_15, (List.forall_mem_cons.mpr ⟨mw_3_16, (List.forall_mem_cons.mpr ⟨mw_3_17, (List.forall_mem_cons.mpr ⟨mw_3_18, (List.forall_mem_cons.mpr ⟨mw_3_19, (List.forall_mem_cons.mpr ⟨mw_6_10, (List.forall_mem_cons.mpr ⟨mw_2_12, (List.forall_mem_cons.mpr ⟨mw_6_11, (List.forall_mem_cons.mpr ⟨mw_6_12, (List.forall_mem_cons.mpr ⟨mw_3_8, (fun _ h => absurd h List.not_mem_nil)⟩)⟩)⟩)⟩)⟩)⟩)⟩)⟩)⟩)⟩)⟩)⟩)⟩)⟩)⟩)⟩)⟩)⟩)⟩)⟩)⟩)⟩)⟩)⟩)
theorem memT_wsX5_keep_r3 : ∀ w ∈ wsX5_keep_r3, w ∈ lw_tbl := by
  unfold wsX5_keep_r3
  exact (List.forall_mem_cons.mpr ⟨mw_3_9, (fun _ h => absurd h List.not_mem_nil)⟩)
theorem memT_wsX5_keep : ∀ w ∈ wsX5_keep, w ∈ lw_tbl := by
  unfold wsX5_keep
  exact (List.forall_mem_cons.mpr ⟨mw_29_9, (List.forall_mem_append.mpr ⟨(List.forall_mem_append.mpr ⟨(List.forall_mem_append.mpr ⟨(List.forall_mem_append.mpr ⟨(List.forall_mem_append.mpr ⟨memT_wsX5_keep_r1, (List.forall_mem_append.mpr ⟨memT_wsX5_keep_r2, memT_wsX5_keep_r3⟩)⟩), inX5⟩), inX0⟩), inX1⟩), inX3⟩)⟩)
theorem mw_29_8 : (Cond.selects RX5 yX5_keep yX5_keep) ∈ lw_tbl := wsL_in_r29 _ (List.mem_of_getElem? (i := 8) rfl)
theorem mw_29_7 : (Cond.instanceMethod yX5_keep) ∈ lw_tbl := wsL_in_r29 _ (List.mem_of_getElem? (i := 7) rfl)
theorem mw_29_6 : (Cond.methodLink RL 159 yX5_keep) ∈ lw_tbl := wsL_in_r29 _ (List.mem_of_getElem? (i := 6) rfl)
set_option maxRecDepth 20000 in
theorem gT_X5_keep : GoodIn lw_tbl (wsV RL 159 RX5 yX5_keep wsX5_keep) := goodIn_sub (by
  unfold wsV
  exact List.forall_mem_append.mpr ⟨(List.forall_mem_cons.mpr ⟨mw_29_6, (List.forall_mem_cons.mpr ⟨mw_29_7, (List.forall_mem_cons.mpr ⟨mw_29_8, (List.forall_mem_cons.mpr ⟨mw_1_2, (fun _ h => absurd h List.not_mem_nil)⟩)⟩)⟩)⟩), memT_wsX5_keep⟩) (by decide +kernel)
theorem mw_29_13 : (Cond.code yX6_keep cX6_keep 1 (some .int)) ∈ lw_tbl := wsL_in_r29 _ (List.mem_of_getElem? (i := 13) rfl)
theorem mw_29_14 : (Cond.fieldLink RX6 161 "LaceRanksModel" "isKept" "Z") ∈ lw_tbl := wsL_in_r29 _ (List.mem_of_getElem? (i := 14) rfl)
theorem memT_wsX6_keep : ∀ w ∈ wsX6_keep, w ∈ lw_tbl := by
  unfold wsX6_keep
  exact (List.forall_mem_cons.mpr ⟨mw_29_13, (List.forall_mem_append.mpr ⟨(List.forall_mem_cons.mpr ⟨mw_7_8, (List.forall_mem_cons.mpr ⟨mw_29_14, (List.forall_mem_cons.mpr ⟨mw_4_9, (List.forall_mem_cons.mpr ⟨mw_7_14, (List.forall_mem_cons.mpr ⟨mw_7_15, (List.forall_mem_cons.mpr ⟨mw_7_16, (List.forall_mem_cons.mpr ⟨mw_1_5, (List.forall_mem_cons.mpr ⟨mw_7_17, (fun _ h => absurd h List.not_mem_nil)⟩)⟩)⟩)⟩)⟩)⟩)⟩)⟩), inX6⟩)⟩)
theorem mw_29_12 : (Cond.selects RX6 yX6_keep yX6_keep) ∈ lw_tbl := wsL_in_r29 _ (List.mem_of_getElem? (i := 12) rfl)
theorem mw_29_11 : (Cond.instanceMethod yX6_keep) ∈ lw_tbl := wsL_in_r29 _ (List.mem_of_getElem? (i := 11) rfl)
theorem mw_29_10 : (Cond.methodLink RL 162 yX6_keep) ∈ lw_tbl := wsL_in_r29 _ (List.mem_of_getElem? (i := 10) rfl)
set_option maxRecDepth 20000 in
theorem gT_X6_keep : GoodIn lw_tbl (wsV RL 162 RX6 yX6_keep wsX6_keep) := goodIn_sub (by
  unfold wsV
  exact List.forall_mem_append.mpr ⟨(List.forall_mem_cons.mpr ⟨mw_29_10, (List.forall_mem_cons.mpr ⟨mw_29_11, (List.forall_mem_cons.mpr ⟨mw_29_12, (List.forall_mem_cons.mpr ⟨mw_1_5, (fun _ h => absurd h List.not_mem_nil)⟩)⟩)⟩)⟩), memT_wsX6_keep⟩) (by decide +kernel)
theorem mw_29_17 : (Cond.codeWith yL_restore cL_restore 3 (some .int) [(0, 8, 11, 15)]) ∈ lw_tbl := wsL_in_r29 _ (List.mem_of_getElem? (i := 17) rfl)
theorem mw_29_21 : (Cond.code yX5_restore cX5_restore 1 (some .int)) ∈ lw_tbl := wsL_in_r29 _ (List.mem_of_getElem? (i := 21) rfl)
theorem mw_29_20 : (Cond.selects RX5 yX5_restore yX5_restore) ∈ lw_tbl := wsL_in_r29 _ (List.mem_of_getElem? (i := 20) rfl)
theorem mw_29_19 : (Cond.instanceMethod yX5_restore) ∈ lw_tbl := wsL_in_r29 _ (List.mem_of_getElem? (i := 19) rfl)
theorem mw_29_18 : (Cond.methodLink RL 61 yX5_restore) ∈ lw_tbl := wsL_in_r29 _ (List.mem_of_getElem? (i := 18) rfl)
theorem memT_wsL_restore_r1 : ∀ w ∈ wsL_restore_r1, w ∈ lw_tbl := by
  unfold wsL_restore_r1
  exact (List.forall_mem_cons.mpr ⟨mw_4_17, (List.forall_mem_cons.mpr ⟨mw_29_18, (List.forall_mem_cons.mpr ⟨mw_29_19, (List.forall_mem_cons.mpr ⟨mw_29_20, (List.forall_mem_cons.mpr ⟨mw_1_2, (List.forall_mem_cons.mpr ⟨mw_29_21, (List.forall_mem_cons.mpr ⟨mw_2_2, (List.forall_mem_cons.mpr ⟨mw_1_21, (List.forall_mem_cons.mpr ⟨mw_1_16, (List.forall_mem_cons.mpr ⟨mw_1_17, (List.forall_mem_cons.mpr ⟨mw_5_6, (List.forall_mem_cons.mpr ⟨mw_5_7, (List.forall_mem_cons.mpr ⟨mw_5_8, (List.forall_mem_cons.mpr ⟨mw_5_9, (List.forall_mem_cons.mpr ⟨mw_5_10, (List.forall_mem_cons.mpr ⟨mw_5_11, (List.forall_mem_cons.mpr ⟨mw_1_20, (List.forall_mem_cons.mpr ⟨mw_5_12, (List.forall_mem_cons.mpr ⟨mw_5_13, (List.forall_mem_cons.mpr ⟨mw_5_14, (List.forall_mem_cons.mpr ⟨mw_5_15, (List.forall_mem_cons.mpr ⟨mw_5_16, (List.forall_mem_cons.mpr ⟨mw_5_17, (List.forall_mem_cons.mpr ⟨mw_5_18, (fun _ h => absurd h List.not_mem_nil)⟩)⟩)⟩)⟩)⟩)⟩)⟩)⟩)⟩)⟩)⟩)⟩)⟩)⟩)⟩)⟩)⟩)⟩)⟩)⟩)⟩)⟩)⟩)⟩)
theorem memT_wsL_restore_r2 : ∀ w ∈ wsL_restore_r2, w ∈ lw_tbl := by
  unfold wsL_restore_r2
  exact (List.forall_mem_cons.mpr ⟨mw_5_19, (List.forall_mem_cons.mpr ⟨mw_4_0, (List.forall_mem_cons.mpr ⟨mw_5_20, (List.forall_mem_cons.mpr ⟨mw_1_15, (List.forall_mem_cons.mpr ⟨mw_5_21, (List.forall_mem_cons.mpr ⟨mw_5_22, (List.forall_mem_cons.mpr ⟨mw_2_9, (List.forall_mem_cons.mpr ⟨mw_2_13, (List.forall_mem_cons.mpr ⟨mw_2_15, (List.forall_mem_cons.mpr ⟨mw_5_23, (List.forall_mem_cons.mpr ⟨mw_6_0, (List.forall_mem_cons.mpr ⟨mw_6_1, (List.forall_mem_cons.mpr ⟨mw_6_2, (List.forall_mem_cons.mpr ⟨mw_6_3, (List.forall_mem_cons.mpr ⟨mw_6_4, (List.forall_mem_cons.mpr ⟨mw_6_5, (List.forall_mem_cons.mpr ⟨mw_2_16, (List.forall_mem_cons.mpr ⟨mw_2_17, (List.forall_mem_cons.mpr ⟨mw_6_6, (List.forall_mem_cons.mpr ⟨mw_2_8, (List.forall_mem_cons.mpr ⟨mw_6_7, (List.forall_mem_cons.mpr ⟨mw_6_8, (List.forall_mem_cons.mpr ⟨mw_2_21, (List.forall_mem_cons.mpr ⟨mw_2_22, (fun _ h => absurd h List.not_mem_nil)⟩)⟩)⟩)⟩)⟩)⟩)⟩)⟩)⟩)⟩)⟩)⟩)⟩)⟩)⟩)⟩)⟩)⟩)⟩)⟩)⟩)⟩)⟩)⟩)
theorem memT_wsL_restore_r3 : ∀ w ∈ wsL_restore_r3, w ∈ lw_tbl := by
  unfold wsL_restore_r3
  exact (List.forall_mem_cons.mpr ⟨mw_2_23, (List.forall_mem_cons.mpr ⟨mw_3_0, (List.forall_mem_cons.mpr ⟨mw_3_1, (List.forall_mem_cons.mpr ⟨mw_3_2, (List.forall_mem_cons.mpr ⟨mw_3_3, (List.forall_mem_cons.mpr ⟨mw_3_4, (List.forall_mem_cons.mpr ⟨mw_6_9, (List.forall_mem_cons.mpr ⟨mw_3_10, (List.forall_mem_cons.mpr ⟨mw_3_11, (List.forall_mem_cons.mpr ⟨mw_3_12, (List.forall_mem_cons.mpr ⟨mw_3_13, (List.forall_mem_cons.mpr ⟨mw_3_14, (List.forall_mem_cons.mpr ⟨mw_3_15, (List.forall_mem_cons.mpr ⟨mw_3_16, (List.forall_mem_cons.mpr ⟨mw_3_17, (List.forall_mem_cons.mpr ⟨mw_3_18, (List.forall_mem_cons.mpr ⟨mw_3_19, (List.forall_mem_cons.mpr ⟨mw_6_10, (List.forall_mem_cons.mpr ⟨mw_2_12, (List.forall_mem_cons.mpr ⟨mw_6_11, (List.forall_mem_cons.mpr ⟨mw_6_12, (List.forall_mem_cons.mpr ⟨mw_3_8, (List.forall_mem_cons.mpr ⟨mw_3_9, (fun _ h => absurd h List.not_mem_nil)⟩)⟩)⟩)⟩)⟩)⟩)⟩)⟩)⟩)⟩)⟩)⟩)⟩)⟩)⟩)⟩)⟩)⟩)⟩)⟩)⟩)⟩)⟩)
theorem memT_wsL_restore : ∀ w ∈ wsL_restore, w ∈ lw_tbl := by
  unfold wsL_restore
  exact (List.forall_mem_cons.mpr ⟨mw_29_17, (List.forall_mem_append.mpr ⟨(List.forall_mem_append.mpr ⟨(List.forall_mem_append.mpr ⟨(List.forall_mem_append.mpr ⟨(List.forall_mem_append.mpr ⟨(List.forall_mem_append.mpr ⟨(List.forall_mem_append.mpr ⟨memT_wsL_restore_r1, (List.forall_mem_append.mpr ⟨memT_wsL_restore_r2, memT_wsL_restore_r3⟩)⟩), inX5⟩), inX0⟩), inX2⟩), inX1⟩), inX3⟩), wsL_law__x1⟩)⟩)
theorem mw_29_16 : (Cond.static yL_restore) ∈ lw_tbl := wsL_in_r29 _ (List.mem_of_getElem? (i := 16) rfl)
theorem mw_29_15 : (Cond.methodLink RL 163 yL_restore) ∈ lw_tbl := wsL_in_r29 _ (List.mem_of_getElem? (i := 15) rfl)
set_option maxRecDepth 20000 in
theorem gT_L_restore : GoodIn lw_tbl (va_wsS RL 163 yL_restore wsL_restore) := goodIn_sub (by
  unfold va_wsS
  exact List.forall_mem_append.mpr ⟨(List.forall_mem_cons.mpr ⟨mw_29_15, (List.forall_mem_cons.mpr ⟨mw_29_16, (List.forall_mem_cons.mpr ⟨mw_4_14, (fun _ h => absurd h List.not_mem_nil)⟩)⟩)⟩), memT_wsL_restore⟩) (by decide +kernel)
theorem mw_30_1 : (Cond.code yX6_restore cX6_restore 1 (some .int)) ∈ lw_tbl := wsL_in_r30 _ (List.mem_of_getElem? (i := 1) rfl)
theorem memT_wsX6_restore : ∀ w ∈ wsX6_restore, w ∈ lw_tbl := by
  unfold wsX6_restore
  exact (List.forall_mem_cons.mpr ⟨mw_30_1, (List.forall_mem_append.mpr ⟨(List.forall_mem_cons.mpr ⟨mw_29_14, (List.forall_mem_cons.mpr ⟨mw_4_9, (List.forall_mem_cons.mpr ⟨mw_7_4, (List.forall_mem_cons.mpr ⟨mw_7_5, (List.forall_mem_cons.mpr ⟨mw_7_6, (List.forall_mem_cons.mpr ⟨mw_1_5, (List.forall_mem_cons.mpr ⟨mw_7_7, (List.forall_mem_cons.mpr ⟨mw_7_8, (List.forall_mem_cons.mpr ⟨mw_7_9, (List.forall_mem_cons.mpr ⟨mw_7_10, (List.forall_mem_cons.mpr ⟨mw_7_11, (List.forall_mem_cons.mpr ⟨mw_7_12, (List.forall_mem_cons.mpr ⟨mw_7_13, (List.forall_mem_cons.mpr ⟨mw_7_14, (List.forall_mem_cons.mpr ⟨mw_7_15, (List.forall_mem_cons.mpr ⟨mw_7_16, (List.forall_mem_cons.mpr ⟨mw_7_17, (fun _ h => absurd h List.not_mem_nil)⟩)⟩)⟩)⟩)⟩)⟩)⟩)⟩)⟩)⟩)⟩)⟩)⟩)⟩)⟩)⟩)⟩), inX6⟩)⟩)
theorem mw_30_0 : (Cond.selects RX6 yX6_restore yX6_restore) ∈ lw_tbl := wsL_in_r30 _ (List.mem_of_getElem? (i := 0) rfl)
theorem mw_29_23 : (Cond.instanceMethod yX6_restore) ∈ lw_tbl := wsL_in_r29 _ (List.mem_of_getElem? (i := 23) rfl)
theorem mw_29_22 : (Cond.methodLink RL 165 yX6_restore) ∈ lw_tbl := wsL_in_r29 _ (List.mem_of_getElem? (i := 22) rfl)
set_option maxRecDepth 20000 in
theorem gT_X6_restore : GoodIn lw_tbl (wsV RL 165 RX6 yX6_restore wsX6_restore) := goodIn_sub (by
  unfold wsV
  exact List.forall_mem_append.mpr ⟨(List.forall_mem_cons.mpr ⟨mw_29_22, (List.forall_mem_cons.mpr ⟨mw_29_23, (List.forall_mem_cons.mpr ⟨mw_30_0, (List.forall_mem_cons.mpr ⟨mw_1_5, (fun _ h => absurd h List.not_mem_nil)⟩)⟩)⟩)⟩), memT_wsX6_restore⟩) (by decide +kernel)
theorem mw_30_4 : (Cond.codeWith yL_guest cL_guest 5 (some .int) [(0, 10, 13, 21), (0, 10, 17, 13)]) ∈ lw_tbl := wsL_in_r30 _ (List.mem_of_getElem? (i := 4) rfl)
theorem mw_30_8 : (Cond.code yX5_guest cX5_guest 3 (some .int)) ∈ lw_tbl := wsL_in_r30 _ (List.mem_of_getElem? (i := 8) rfl)
theorem mw_30_7 : (Cond.selects RX5 yX5_guest yX5_guest) ∈ lw_tbl := wsL_in_r30 _ (List.mem_of_getElem? (i := 7) rfl)
theorem mw_30_6 : (Cond.instanceMethod yX5_guest) ∈ lw_tbl := wsL_in_r30 _ (List.mem_of_getElem? (i := 6) rfl)
theorem mw_30_5 : (Cond.methodLink RL 64 yX5_guest) ∈ lw_tbl := wsL_in_r30 _ (List.mem_of_getElem? (i := 5) rfl)
theorem memT_wsL_guest_r1 : ∀ w ∈ wsL_guest_r1, w ∈ lw_tbl := by
  unfold wsL_guest_r1
  exact (List.forall_mem_cons.mpr ⟨mw_8_5, (List.forall_mem_cons.mpr ⟨mw_4_16, (List.forall_mem_cons.mpr ⟨mw_30_5, (List.forall_mem_cons.mpr ⟨mw_30_6, (List.forall_mem_cons.mpr ⟨mw_30_7, (List.forall_mem_cons.mpr ⟨mw_1_2, (List.forall_mem_cons.mpr ⟨mw_30_8, (List.forall_mem_cons.mpr ⟨mw_1_16, (List.forall_mem_cons.mpr ⟨mw_8_10, (List.forall_mem_cons.mpr ⟨mw_8_11, (List.forall_mem_cons.mpr ⟨mw_8_12, (List.forall_mem_cons.mpr ⟨mw_8_13, (List.forall_mem_cons.mpr ⟨mw_8_14, (List.forall_mem_cons.mpr ⟨mw_8_15, (List.forall_mem_cons.mpr ⟨mw_8_16, (List.forall_mem_cons.mpr ⟨mw_2_8, (List.forall_mem_cons.mpr ⟨mw_8_17, (List.forall_mem_cons.mpr ⟨mw_8_18, (List.forall_mem_cons.mpr ⟨mw_6_9, (List.forall_mem_cons.mpr ⟨mw_4_22, (List.forall_mem_cons.mpr ⟨mw_4_23, (List.forall_mem_cons.mpr ⟨mw_5_0, (List.forall_mem_cons.mpr ⟨mw_5_1, (List.forall_mem_cons.mpr ⟨mw_5_2, (fun _ h => absurd h List.not_mem_nil)⟩)⟩)⟩)⟩)⟩)⟩)⟩)⟩)⟩)⟩)⟩)⟩)⟩)⟩)⟩)⟩)⟩)⟩)⟩)⟩)⟩)⟩)⟩)⟩)
theorem mw_30_11 : (Cond.code yX0_guestNumber cX0_guestNumber 3 (some .int)) ∈ lw_tbl := wsL_in_r30 _ (List.mem_of_getElem? (i := 11) rfl)
theorem mw_30_10 : (Cond.selects RX0 yX0_guestNumber yX0_guestNumber) ∈ lw_tbl := wsL_in_r30 _ (List.mem_of_getElem? (i := 10) rfl)
theorem mw_30_9 : (Cond.instanceMethod yX0_guestNumber) ∈ lw_tbl := wsL_in_r30 _ (List.mem_of_getElem? (i := 9) rfl)
theorem memT_wsL_guest_r2 : ∀ w ∈ wsL_guest_r2, w ∈ lw_tbl := by
  unfold wsL_guest_r2
  exact (List.forall_mem_cons.mpr ⟨mw_5_3, (List.forall_mem_cons.mpr ⟨mw_5_4, (List.forall_mem_cons.mpr ⟨mw_5_5, (List.forall_mem_cons.mpr ⟨mw_30_9, (List.forall_mem_cons.mpr ⟨mw_1_15, (List.forall_mem_cons.mpr ⟨mw_30_10, (List.forall_mem_cons.mpr ⟨mw_30_11, (List.forall_mem_cons.mpr ⟨mw_2_9, (List.forall_mem_cons.mpr ⟨mw_2_13, (List.forall_mem_cons.mpr ⟨mw_9_1, (List.forall_mem_cons.mpr ⟨mw_9_2, (List.forall_mem_cons.mpr ⟨mw_8_22, (List.forall_mem_cons.mpr ⟨mw_8_23, (List.forall_mem_cons.mpr ⟨mw_9_0, (List.forall_mem_cons.mpr ⟨mw_3_1, (List.forall_mem_cons.mpr ⟨mw_3_2, (List.forall_mem_cons.mpr ⟨mw_19_0, (List.forall_mem_cons.mpr ⟨mw_19_1, (List.forall_mem_cons.mpr ⟨mw_19_2, (List.forall_mem_cons.mpr ⟨mw_3_0, (List.forall_mem_cons.mpr ⟨mw_12_13, (List.forall_mem_cons.mpr ⟨mw_9_6, (List.forall_mem_cons.mpr ⟨mw_2_12, (List.forall_mem_cons.mpr ⟨mw_9_7, (fun _ h => absurd h List.not_mem_nil)⟩)⟩)⟩)⟩)⟩)⟩)⟩)⟩)⟩)⟩)⟩)⟩)⟩)⟩)⟩)⟩)⟩)⟩)⟩)⟩)⟩)⟩)⟩)⟩)
theorem mw_30_14 : (Cond.code yX3_placeOf cX3_placeOf 3 (some .int)) ∈ lw_tbl := wsL_in_r30 _ (List.mem_of_getElem? (i := 14) rfl)
theorem mw_30_13 : (Cond.selects RX3 yX3_placeOf yX3_placeOf) ∈ lw_tbl := wsL_in_r30 _ (List.mem_of_getElem? (i := 13) rfl)
theorem mw_30_12 : (Cond.instanceMethod yX3_placeOf) ∈ lw_tbl := wsL_in_r30 _ (List.mem_of_getElem? (i := 12) rfl)
theorem memT_wsL_guest_r3 : ∀ w ∈ wsL_guest_r3, w ∈ lw_tbl := by
  unfold wsL_guest_r3
  exact (List.forall_mem_cons.mpr ⟨mw_9_8, (List.forall_mem_cons.mpr ⟨mw_9_9, (List.forall_mem_cons.mpr ⟨mw_9_10, (List.forall_mem_cons.mpr ⟨mw_9_11, (List.forall_mem_cons.mpr ⟨mw_9_12, (List.forall_mem_cons.mpr ⟨mw_3_9, (List.forall_mem_cons.mpr ⟨mw_3_8, (List.forall_mem_cons.mpr ⟨mw_30_12, (List.forall_mem_cons.mpr ⟨mw_30_13, (List.forall_mem_cons.mpr ⟨mw_30_14, (fun _ h => absurd h List.not_mem_nil)⟩)⟩)⟩)⟩)⟩)⟩)⟩)⟩)⟩)⟩)
theorem memT_wsL_guest : ∀ w ∈ wsL_guest, w ∈ lw_tbl := by
  unfold wsL_guest
  exact (List.forall_mem_cons.mpr ⟨mw_30_4, (List.forall_mem_append.mpr ⟨(List.forall_mem_append.mpr ⟨(List.forall_mem_append.mpr ⟨(List.forall_mem_append.mpr ⟨(List.forall_mem_append.mpr ⟨(List.forall_mem_append.mpr ⟨(List.forall_mem_append.mpr ⟨memT_wsL_guest_r1, (List.forall_mem_append.mpr ⟨memT_wsL_guest_r2, memT_wsL_guest_r3⟩)⟩), inX5⟩), inX0⟩), inX1⟩), inX3⟩), wsL_law__x2⟩), wsL_law__x0⟩)⟩)
theorem mw_30_3 : (Cond.static yL_guest) ∈ lw_tbl := wsL_in_r30 _ (List.mem_of_getElem? (i := 3) rfl)
theorem mw_30_2 : (Cond.methodLink RL 166 yL_guest) ∈ lw_tbl := wsL_in_r30 _ (List.mem_of_getElem? (i := 2) rfl)
set_option maxRecDepth 20000 in
theorem gT_L_guest : GoodIn lw_tbl (va_wsS RL 166 yL_guest wsL_guest) := goodIn_sub (by
  unfold va_wsS
  exact List.forall_mem_append.mpr ⟨(List.forall_mem_cons.mpr ⟨mw_30_2, (List.forall_mem_cons.mpr ⟨mw_30_3, (List.forall_mem_cons.mpr ⟨mw_4_14, (fun _ h => absurd h List.not_mem_nil)⟩)⟩)⟩), memT_wsL_guest⟩) (by decide +kernel)
theorem mw_30_18 : (Cond.code yX6_guest cX6_guest 3 (some .int)) ∈ lw_tbl := wsL_in_r30 _ (List.mem_of_getElem? (i := 18) rfl)
theorem mw_30_22 : (Cond.code yX6_ofGuest cX6_ofGuest 4 (some .int)) ∈ lw_tbl := wsL_in_r30 _ (List.mem_of_getElem? (i := 22) rfl)
theorem mw_30_21 : (Cond.selects RX6 yX6_ofGuest yX6_ofGuest) ∈ lw_tbl := wsL_in_r30 _ (List.mem_of_getElem? (i := 21) rfl)
theorem mw_30_20 : (Cond.instanceMethod yX6_ofGuest) ∈ lw_tbl := wsL_in_r30 _ (List.mem_of_getElem? (i := 20) rfl)
theorem mw_30_19 : (Cond.methodLink RX6 165 yX6_ofGuest) ∈ lw_tbl := wsL_in_r30 _ (List.mem_of_getElem? (i := 19) rfl)
theorem memT_wsX6_guest_r1 : ∀ w ∈ wsX6_guest_r1, w ∈ lw_tbl := by
  unfold wsX6_guest_r1
  exact (List.forall_mem_cons.mpr ⟨mw_10_9, (List.forall_mem_cons.mpr ⟨mw_10_10, (List.forall_mem_cons.mpr ⟨mw_10_11, (List.forall_mem_cons.mpr ⟨mw_1_5, (List.forall_mem_cons.mpr ⟨mw_10_12, (List.forall_mem_cons.mpr ⟨mw_4_9, (List.forall_mem_cons.mpr ⟨mw_7_1, (List.forall_mem_cons.mpr ⟨mw_7_2, (List.forall_mem_cons.mpr ⟨mw_7_3, (List.forall_mem_cons.mpr ⟨mw_7_4, (List.forall_mem_cons.mpr ⟨mw_7_5, (List.forall_mem_cons.mpr ⟨mw_7_6, (List.forall_mem_cons.mpr ⟨mw_7_7, (List.forall_mem_cons.mpr ⟨mw_7_8, (List.forall_mem_cons.mpr ⟨mw_30_19, (List.forall_mem_cons.mpr ⟨mw_30_20, (List.forall_mem_cons.mpr ⟨mw_30_21, (List.forall_mem_cons.mpr ⟨mw_30_22, (List.forall_mem_cons.mpr ⟨mw_10_21, (List.forall_mem_cons.mpr ⟨mw_10_22, (List.forall_mem_cons.mpr ⟨mw_10_23, (List.forall_mem_cons.mpr ⟨mw_11_0, (List.forall_mem_cons.mpr ⟨mw_11_1, (List.forall_mem_cons.mpr ⟨mw_11_2, (fun _ h => absurd h List.not_mem_nil)⟩)⟩)⟩)⟩)⟩)⟩)⟩)⟩)⟩)⟩)⟩)⟩)⟩)⟩)⟩)⟩)⟩)⟩)⟩)⟩)⟩)⟩)⟩)⟩)
theorem memT_wsX6_guest_r2 : ∀ w ∈ wsX6_guest_r2, w ∈ lw_tbl := by
  unfold wsX6_guest_r2
  exact (List.forall_mem_cons.mpr ⟨mw_11_3, (List.forall_mem_cons.mpr ⟨mw_11_4, (List.forall_mem_cons.mpr ⟨mw_11_5, (List.forall_mem_cons.mpr ⟨mw_11_6, (List.forall_mem_cons.mpr ⟨mw_11_7, (List.forall_mem_cons.mpr ⟨mw_11_8, (List.forall_mem_cons.mpr ⟨mw_20_11, (List.forall_mem_cons.mpr ⟨mw_20_12, (List.forall_mem_cons.mpr ⟨mw_20_13, (List.forall_mem_cons.mpr ⟨mw_20_14, (List.forall_mem_cons.mpr ⟨mw_10_13, (List.forall_mem_cons.mpr ⟨mw_10_14, (List.forall_mem_cons.mpr ⟨mw_10_15, (List.forall_mem_cons.mpr ⟨mw_10_16, (List.forall_mem_cons.mpr ⟨mw_10_17, (List.forall_mem_cons.mpr ⟨mw_10_18, (List.forall_mem_cons.mpr ⟨mw_10_19, (List.forall_mem_cons.mpr ⟨mw_10_20, (fun _ h => absurd h List.not_mem_nil)⟩)⟩)⟩)⟩)⟩)⟩)⟩)⟩)⟩)⟩)⟩)⟩)⟩)⟩)⟩)⟩)⟩)⟩)
theorem memT_wsX6_guest : ∀ w ∈ wsX6_guest, w ∈ lw_tbl := by
  unfold wsX6_guest
  exact (List.forall_mem_cons.mpr ⟨mw_30_18, (List.forall_mem_append.mpr ⟨(List.forall_mem_append.mpr ⟨memT_wsX6_guest_r1, memT_wsX6_guest_r2⟩), inX6⟩)⟩)
theorem mw_30_17 : (Cond.selects RX6 yX6_guest yX6_guest) ∈ lw_tbl := wsL_in_r30 _ (List.mem_of_getElem? (i := 17) rfl)
theorem mw_30_16 : (Cond.instanceMethod yX6_guest) ∈ lw_tbl := wsL_in_r30 _ (List.mem_of_getElem? (i := 16) rfl)
theorem mw_30_15 : (Cond.methodLink RL 168 yX6_guest) ∈ lw_tbl := wsL_in_r30 _ (List.mem_of_getElem? (i := 15) rfl)
set_option maxRecDepth 20000 in
theorem gT_X6_guest : GoodIn lw_tbl (wsV RL 168 RX6 yX6_guest wsX6_guest) := goodIn_sub (by
  unfold wsV
  exact List.forall_mem_append.mpr ⟨(List.forall_mem_cons.mpr ⟨mw_30_15, (List.forall_mem_cons.mpr ⟨mw_30_16, (List.forall_mem_cons.mpr ⟨mw_30_17, (List.forall_mem_cons.mpr ⟨mw_1_5, (fun _ h => absurd h List.not_mem_nil)⟩)⟩)⟩)⟩), memT_wsX6_guest⟩) (by decide +kernel)
theorem mw_31_1 : (Cond.codeWith yL_law cL_law 6 (some .int) [(0, 12, 15, 21), (0, 12, 19, 13)]) ∈ lw_tbl := wsL_in_r31 _ (List.mem_of_getElem? (i := 1) rfl)
theorem mw_31_5 : (Cond.code yX5_law cX5_law 4 (some .int)) ∈ lw_tbl := wsL_in_r31 _ (List.mem_of_getElem? (i := 5) rfl)
theorem mw_31_4 : (Cond.selects RX5 yX5_law yX5_law) ∈ lw_tbl := wsL_in_r31 _ (List.mem_of_getElem? (i := 4) rfl)
theorem mw_31_3 : (Cond.instanceMethod yX5_law) ∈ lw_tbl := wsL_in_r31 _ (List.mem_of_getElem? (i := 3) rfl)
theorem mw_31_2 : (Cond.methodLink RL 67 yX5_law) ∈ lw_tbl := wsL_in_r31 _ (List.mem_of_getElem? (i := 2) rfl)
theorem memT_wsL_law_r1 : ∀ w ∈ wsL_law_r1, w ∈ lw_tbl := by
  unfold wsL_law_r1
  exact (List.forall_mem_cons.mpr ⟨mw_8_5, (List.forall_mem_cons.mpr ⟨mw_4_16, (List.forall_mem_cons.mpr ⟨mw_31_2, (List.forall_mem_cons.mpr ⟨mw_31_3, (List.forall_mem_cons.mpr ⟨mw_31_4, (List.forall_mem_cons.mpr ⟨mw_1_2, (List.forall_mem_cons.mpr ⟨mw_31_5, (List.forall_mem_cons.mpr ⟨mw_1_16, (List.forall_mem_cons.mpr ⟨mw_16_17, (List.forall_mem_cons.mpr ⟨mw_16_18, (List.forall_mem_cons.mpr ⟨mw_16_19, (List.forall_mem_cons.mpr ⟨mw_4_22, (List.forall_mem_cons.mpr ⟨mw_4_23, (List.forall_mem_cons.mpr ⟨mw_5_0, (List.forall_mem_cons.mpr ⟨mw_16_20, (List.forall_mem_cons.mpr ⟨mw_16_21, (List.forall_mem_cons.mpr ⟨mw_16_22, (List.forall_mem_cons.mpr ⟨mw_8_14, (List.forall_mem_cons.mpr ⟨mw_8_15, (List.forall_mem_cons.mpr ⟨mw_5_1, (List.forall_mem_cons.mpr ⟨mw_5_2, (List.forall_mem_cons.mpr ⟨mw_5_3, (List.forall_mem_cons.mpr ⟨mw_5_4, (List.forall_mem_cons.mpr ⟨mw_5_5, (fun _ h => absurd h List.not_mem_nil)⟩)⟩)⟩)⟩)⟩)⟩)⟩)⟩)⟩)⟩)⟩)⟩)⟩)⟩)⟩)⟩)⟩)⟩)⟩)⟩)⟩)⟩)⟩)⟩)
theorem memT_wsL_law_r2 : ∀ w ∈ wsL_law_r2, w ∈ lw_tbl := by
  unfold wsL_law_r2
  exact (List.forall_mem_cons.mpr ⟨mw_19_4, (List.forall_mem_cons.mpr ⟨mw_1_15, (List.forall_mem_cons.mpr ⟨mw_19_5, (List.forall_mem_cons.mpr ⟨mw_19_6, (List.forall_mem_cons.mpr ⟨mw_2_15, (List.forall_mem_cons.mpr ⟨mw_18_17, (List.forall_mem_cons.mpr ⟨mw_18_18, (List.forall_mem_cons.mpr ⟨mw_3_14, (List.forall_mem_cons.mpr ⟨mw_18_19, (List.forall_mem_cons.mpr ⟨mw_9_1, (List.forall_mem_cons.mpr ⟨mw_9_2, (fun _ h => absurd h List.not_mem_nil)⟩)⟩)⟩)⟩)⟩)⟩)⟩)⟩)⟩)⟩)⟩)
theorem memT_wsL_law : ∀ w ∈ wsL_law, w ∈ lw_tbl := by
  unfold wsL_law
  exact (List.forall_mem_cons.mpr ⟨mw_31_1, (List.forall_mem_append.mpr ⟨(List.forall_mem_append.mpr ⟨(List.forall_mem_append.mpr ⟨(List.forall_mem_append.mpr ⟨(List.forall_mem_append.mpr ⟨memT_wsL_law_r1, memT_wsL_law_r2⟩), inX5⟩), inX0⟩), wsL_law__x2⟩), wsL_law__x0⟩)⟩)
theorem mw_31_0 : (Cond.static yL_law) ∈ lw_tbl := wsL_in_r31 _ (List.mem_of_getElem? (i := 0) rfl)
theorem mw_30_23 : (Cond.methodLink RL 169 yL_law) ∈ lw_tbl := wsL_in_r30 _ (List.mem_of_getElem? (i := 23) rfl)
set_option maxRecDepth 20000 in
theorem gT_L_law : GoodIn lw_tbl (va_wsS RL 169 yL_law wsL_law) := goodIn_sub (by
  unfold va_wsS
  exact List.forall_mem_append.mpr ⟨(List.forall_mem_cons.mpr ⟨mw_30_23, (List.forall_mem_cons.mpr ⟨mw_31_0, (List.forall_mem_cons.mpr ⟨mw_4_14, (fun _ h => absurd h List.not_mem_nil)⟩)⟩)⟩), memT_wsL_law⟩) (by decide +kernel)
theorem mw_31_9 : (Cond.code yX6_law cX6_law 5 (some .int)) ∈ lw_tbl := wsL_in_r31 _ (List.mem_of_getElem? (i := 9) rfl)
theorem memT_wsX6_law : ∀ w ∈ wsX6_law, w ∈ lw_tbl := by
  unfold wsX6_law
  exact (List.forall_mem_cons.mpr ⟨mw_31_9, (List.forall_mem_append.mpr ⟨(List.forall_mem_cons.mpr ⟨mw_7_1, (List.forall_mem_cons.mpr ⟨mw_7_2, (List.forall_mem_cons.mpr ⟨mw_1_5, (List.forall_mem_cons.mpr ⟨mw_7_3, (List.forall_mem_cons.mpr ⟨mw_17_9, (List.forall_mem_cons.mpr ⟨mw_17_10, (List.forall_mem_cons.mpr ⟨mw_17_11, (List.forall_mem_cons.mpr ⟨mw_7_4, (List.forall_mem_cons.mpr ⟨mw_7_5, (List.forall_mem_cons.mpr ⟨mw_7_6, (List.forall_mem_cons.mpr ⟨mw_7_7, (List.forall_mem_cons.mpr ⟨mw_7_8, (List.forall_mem_cons.mpr ⟨mw_20_15, (List.forall_mem_cons.mpr ⟨mw_20_16, (List.forall_mem_cons.mpr ⟨mw_20_17, (List.forall_mem_cons.mpr ⟨mw_20_18, (List.forall_mem_cons.mpr ⟨mw_4_9, (fun _ h => absurd h List.not_mem_nil)⟩)⟩)⟩)⟩)⟩)⟩)⟩)⟩)⟩)⟩)⟩)⟩)⟩)⟩)⟩)⟩)⟩), inX6⟩)⟩)
theorem mw_31_8 : (Cond.selects RX6 yX6_law yX6_law) ∈ lw_tbl := wsL_in_r31 _ (List.mem_of_getElem? (i := 8) rfl)
theorem mw_31_7 : (Cond.instanceMethod yX6_law) ∈ lw_tbl := wsL_in_r31 _ (List.mem_of_getElem? (i := 7) rfl)
theorem mw_31_6 : (Cond.methodLink RL 171 yX6_law) ∈ lw_tbl := wsL_in_r31 _ (List.mem_of_getElem? (i := 6) rfl)
set_option maxRecDepth 20000 in
theorem gT_X6_law : GoodIn lw_tbl (wsV RL 171 RX6 yX6_law wsX6_law) := goodIn_sub (by
  unfold wsV
  exact List.forall_mem_append.mpr ⟨(List.forall_mem_cons.mpr ⟨mw_31_6, (List.forall_mem_cons.mpr ⟨mw_31_7, (List.forall_mem_cons.mpr ⟨mw_31_8, (List.forall_mem_cons.mpr ⟨mw_1_5, (fun _ h => absurd h List.not_mem_nil)⟩)⟩)⟩)⟩), memT_wsX6_law⟩) (by decide +kernel)
theorem mw_31_12 : (Cond.codeWith yL_count cL_count 4 (some .int) [(0, 9, 12, 13)]) ∈ lw_tbl := wsL_in_r31 _ (List.mem_of_getElem? (i := 12) rfl)
theorem mw_31_23 : (Cond.code yX0_countNumber cX0_countNumber 2 (some .int)) ∈ lw_tbl := wsL_in_r31 _ (List.mem_of_getElem? (i := 23) rfl)
theorem mw_31_22 : (Cond.selects RX0 yX0_countNumber yX0_countNumber) ∈ lw_tbl := wsL_in_r31 _ (List.mem_of_getElem? (i := 22) rfl)
theorem mw_31_21 : (Cond.instanceMethod yX0_countNumber) ∈ lw_tbl := wsL_in_r31 _ (List.mem_of_getElem? (i := 21) rfl)
theorem mw_31_20 : (Cond.code yX5_numberOf cX5_numberOf 2 (some .int)) ∈ lw_tbl := wsL_in_r31 _ (List.mem_of_getElem? (i := 20) rfl)
theorem mw_31_19 : (Cond.selects RX5 yX5_numberOf yX5_numberOf) ∈ lw_tbl := wsL_in_r31 _ (List.mem_of_getElem? (i := 19) rfl)
theorem mw_31_18 : (Cond.instanceMethod yX5_numberOf) ∈ lw_tbl := wsL_in_r31 _ (List.mem_of_getElem? (i := 18) rfl)
theorem mw_31_17 : (Cond.methodLink RX5 200 yX5_numberOf) ∈ lw_tbl := wsL_in_r31 _ (List.mem_of_getElem? (i := 17) rfl)
theorem mw_31_16 : (Cond.code yX5_count cX5_count 2 (some .int)) ∈ lw_tbl := wsL_in_r31 _ (List.mem_of_getElem? (i := 16) rfl)
theorem mw_31_15 : (Cond.selects RX5 yX5_count yX5_count) ∈ lw_tbl := wsL_in_r31 _ (List.mem_of_getElem? (i := 15) rfl)
theorem mw_31_14 : (Cond.instanceMethod yX5_count) ∈ lw_tbl := wsL_in_r31 _ (List.mem_of_getElem? (i := 14) rfl)
theorem mw_31_13 : (Cond.methodLink RL 70 yX5_count) ∈ lw_tbl := wsL_in_r31 _ (List.mem_of_getElem? (i := 13) rfl)
theorem memT_wsL_count_r1 : ∀ w ∈ wsL_count_r1, w ∈ lw_tbl := by
  unfold wsL_count_r1
  exact (List.forall_mem_cons.mpr ⟨mw_4_16, (List.forall_mem_cons.mpr ⟨mw_31_13, (List.forall_mem_cons.mpr ⟨mw_31_14, (List.forall_mem_cons.mpr ⟨mw_31_15, (List.forall_mem_cons.mpr ⟨mw_1_2, (List.forall_mem_cons.mpr ⟨mw_31_16, (List.forall_mem_cons.mpr ⟨mw_4_22, (List.forall_mem_cons.mpr ⟨mw_4_23, (List.forall_mem_cons.mpr ⟨mw_5_0, (List.forall_mem_cons.mpr ⟨mw_5_1, (List.forall_mem_cons.mpr ⟨mw_5_2, (List.forall_mem_cons.mpr ⟨mw_5_3, (List.forall_mem_cons.mpr ⟨mw_5_4, (List.forall_mem_cons.mpr ⟨mw_5_5, (List.forall_mem_cons.mpr ⟨mw_31_17, (List.forall_mem_cons.mpr ⟨mw_31_18, (List.forall_mem_cons.mpr ⟨mw_31_19, (List.forall_mem_cons.mpr ⟨mw_31_20, (List.forall_mem_cons.mpr ⟨mw_1_21, (List.forall_mem_cons.mpr ⟨mw_1_16, (List.forall_mem_cons.mpr ⟨mw_31_21, (List.forall_mem_cons.mpr ⟨mw_1_15, (List.forall_mem_cons.mpr ⟨mw_31_22, (List.forall_mem_cons.mpr ⟨mw_31_23, (fun _ h => absurd h List.not_mem_nil)⟩)⟩)⟩)⟩)⟩)⟩)⟩)⟩)⟩)⟩)⟩)⟩)⟩)⟩)⟩)⟩)⟩)⟩)⟩)⟩)⟩)⟩)⟩)⟩)
theorem mw_32_5 : (Cond.code yX1_bitsOfInside cX1_bitsOfInside 3 (some .int)) ∈ lw_tbl := wsL_in_r32 _ (List.mem_of_getElem? (i := 5) rfl)
theorem mw_32_4 : (Cond.selects RX1 yX1_bitsOfInside yX1_bitsOfInside) ∈ lw_tbl := wsL_in_r32 _ (List.mem_of_getElem? (i := 4) rfl)
theorem mw_32_3 : (Cond.instanceMethod yX1_bitsOfInside) ∈ lw_tbl := wsL_in_r32 _ (List.mem_of_getElem? (i := 3) rfl)
theorem mw_32_2 : (Cond.code yX1_howManyMasked cX1_howManyMasked 3 (some .int)) ∈ lw_tbl := wsL_in_r32 _ (List.mem_of_getElem? (i := 2) rfl)
theorem mw_32_1 : (Cond.selects RX1 yX1_howManyMasked yX1_howManyMasked) ∈ lw_tbl := wsL_in_r32 _ (List.mem_of_getElem? (i := 1) rfl)
theorem mw_32_0 : (Cond.instanceMethod yX1_howManyMasked) ∈ lw_tbl := wsL_in_r32 _ (List.mem_of_getElem? (i := 0) rfl)
theorem memT_wsL_count_r2 : ∀ w ∈ wsL_count_r2, w ∈ lw_tbl := by
  unfold wsL_count_r2
  exact (List.forall_mem_cons.mpr ⟨mw_5_23, (List.forall_mem_cons.mpr ⟨mw_2_9, (List.forall_mem_cons.mpr ⟨mw_2_13, (List.forall_mem_cons.mpr ⟨mw_6_0, (List.forall_mem_cons.mpr ⟨mw_6_2, (List.forall_mem_cons.mpr ⟨mw_6_1, (List.forall_mem_cons.mpr ⟨mw_6_3, (List.forall_mem_cons.mpr ⟨mw_6_4, (List.forall_mem_cons.mpr ⟨mw_6_5, (List.forall_mem_cons.mpr ⟨mw_2_15, (List.forall_mem_cons.mpr ⟨mw_21_2, (List.forall_mem_cons.mpr ⟨mw_21_3, (List.forall_mem_cons.mpr ⟨mw_12_18, (List.forall_mem_cons.mpr ⟨mw_9_1, (List.forall_mem_cons.mpr ⟨mw_9_2, (List.forall_mem_cons.mpr ⟨mw_32_0, (List.forall_mem_cons.mpr ⟨mw_2_8, (List.forall_mem_cons.mpr ⟨mw_32_1, (List.forall_mem_cons.mpr ⟨mw_32_2, (List.forall_mem_cons.mpr ⟨mw_6_9, (List.forall_mem_cons.mpr ⟨mw_3_3, (List.forall_mem_cons.mpr ⟨mw_32_3, (List.forall_mem_cons.mpr ⟨mw_32_4, (List.forall_mem_cons.mpr ⟨mw_32_5, (fun _ h => absurd h List.not_mem_nil)⟩)⟩)⟩)⟩)⟩)⟩)⟩)⟩)⟩)⟩)⟩)⟩)⟩)⟩)⟩)⟩)⟩)⟩)⟩)⟩)⟩)⟩)⟩)⟩)
theorem memT_wsL_count_r3 : ∀ w ∈ wsL_count_r3, w ∈ lw_tbl := by
  unfold wsL_count_r3
  exact (List.forall_mem_cons.mpr ⟨mw_12_14, (List.forall_mem_cons.mpr ⟨mw_9_3, (List.forall_mem_cons.mpr ⟨mw_9_4, (List.forall_mem_cons.mpr ⟨mw_9_5, (List.forall_mem_cons.mpr ⟨mw_3_4, (fun _ h => absurd h List.not_mem_nil)⟩)⟩)⟩)⟩)⟩)
theorem memT_wsL_count : ∀ w ∈ wsL_count, w ∈ lw_tbl := by
  unfold wsL_count
  exact (List.forall_mem_cons.mpr ⟨mw_31_12, (List.forall_mem_append.mpr ⟨(List.forall_mem_append.mpr ⟨(List.forall_mem_append.mpr ⟨(List.forall_mem_append.mpr ⟨(List.forall_mem_append.mpr ⟨(List.forall_mem_append.mpr ⟨(List.forall_mem_append.mpr ⟨memT_wsL_count_r1, (List.forall_mem_append.mpr ⟨memT_wsL_count_r2, memT_wsL_count_r3⟩)⟩), inX5⟩), inX2⟩), inX0⟩), inX1⟩), inX3⟩), wsL_law__x0⟩)⟩)
theorem mw_31_11 : (Cond.static yL_count) ∈ lw_tbl := wsL_in_r31 _ (List.mem_of_getElem? (i := 11) rfl)
theorem mw_31_10 : (Cond.methodLink RL 172 yL_count) ∈ lw_tbl := wsL_in_r31 _ (List.mem_of_getElem? (i := 10) rfl)
set_option maxRecDepth 20000 in
theorem gT_L_count : GoodIn lw_tbl (va_wsS RL 172 yL_count wsL_count) := goodIn_sub (by
  unfold va_wsS
  exact List.forall_mem_append.mpr ⟨(List.forall_mem_cons.mpr ⟨mw_31_10, (List.forall_mem_cons.mpr ⟨mw_31_11, (List.forall_mem_cons.mpr ⟨mw_4_14, (fun _ h => absurd h List.not_mem_nil)⟩)⟩)⟩), memT_wsL_count⟩) (by decide +kernel)
theorem mw_32_9 : (Cond.code yX6_count cX6_count 2 (some .int)) ∈ lw_tbl := wsL_in_r32 _ (List.mem_of_getElem? (i := 9) rfl)
theorem mw_32_17 : (Cond.code yX6_total cX6_total 4 (some .int)) ∈ lw_tbl := wsL_in_r32 _ (List.mem_of_getElem? (i := 17) rfl)
theorem mw_32_16 : (Cond.selects RX6 yX6_total yX6_total) ∈ lw_tbl := wsL_in_r32 _ (List.mem_of_getElem? (i := 16) rfl)
theorem mw_32_15 : (Cond.instanceMethod yX6_total) ∈ lw_tbl := wsL_in_r32 _ (List.mem_of_getElem? (i := 15) rfl)
theorem mw_32_14 : (Cond.methodLink RX6 168 yX6_total) ∈ lw_tbl := wsL_in_r32 _ (List.mem_of_getElem? (i := 14) rfl)
theorem mw_32_13 : (Cond.code yX6_counted cX6_counted 2 (some .int)) ∈ lw_tbl := wsL_in_r32 _ (List.mem_of_getElem? (i := 13) rfl)
theorem mw_32_12 : (Cond.selects RX6 yX6_counted yX6_counted) ∈ lw_tbl := wsL_in_r32 _ (List.mem_of_getElem? (i := 12) rfl)
theorem mw_32_11 : (Cond.instanceMethod yX6_counted) ∈ lw_tbl := wsL_in_r32 _ (List.mem_of_getElem? (i := 11) rfl)
theorem mw_32_10 : (Cond.methodLink RX6 177 yX6_counted) ∈ lw_tbl := wsL_in_r32 _ (List.mem_of_getElem? (i := 10) rfl)
theorem memT_wsX6_count_r1 : ∀ w ∈ wsX6_count_r1, w ∈ lw_tbl := by
  unfold wsX6_count_r1
  exact (List.forall_mem_cons.mpr ⟨mw_7_1, (List.forall_mem_cons.mpr ⟨mw_7_2, (List.forall_mem_cons.mpr ⟨mw_1_5, (List.forall_mem_cons.mpr ⟨mw_7_3, (List.forall_mem_cons.mpr ⟨mw_7_4, (List.forall_mem_cons.mpr ⟨mw_7_5, (List.forall_mem_cons.mpr ⟨mw_7_6, (List.forall_mem_cons.mpr ⟨mw_7_7, (List.forall_mem_cons.mpr ⟨mw_7_8, (List.forall_mem_cons.mpr ⟨mw_32_10, (List.forall_mem_cons.mpr ⟨mw_32_11, (List.forall_mem_cons.mpr ⟨mw_32_12, (List.forall_mem_cons.mpr ⟨mw_32_13, (List.forall_mem_cons.mpr ⟨mw_4_9, (List.forall_mem_cons.mpr ⟨mw_7_13, (List.forall_mem_cons.mpr ⟨mw_32_14, (List.forall_mem_cons.mpr ⟨mw_32_15, (List.forall_mem_cons.mpr ⟨mw_32_16, (List.forall_mem_cons.mpr ⟨mw_32_17, (List.forall_mem_cons.mpr ⟨mw_10_13, (List.forall_mem_cons.mpr ⟨mw_10_14, (List.forall_mem_cons.mpr ⟨mw_10_15, (List.forall_mem_cons.mpr ⟨mw_10_16, (List.forall_mem_cons.mpr ⟨mw_11_1, (fun _ h => absurd h List.not_mem_nil)⟩)⟩)⟩)⟩)⟩)⟩)⟩)⟩)⟩)⟩)⟩)⟩)⟩)⟩)⟩)⟩)⟩)⟩)⟩)⟩)⟩)⟩)⟩)⟩)
theorem mw_33_1 : (Cond.code yX6_insideSet cX6_insideSet 3 (some .int)) ∈ lw_tbl := wsL_in_r33 _ (List.mem_of_getElem? (i := 1) rfl)
theorem mw_33_0 : (Cond.selects RX6 yX6_insideSet yX6_insideSet) ∈ lw_tbl := wsL_in_r33 _ (List.mem_of_getElem? (i := 0) rfl)
theorem mw_32_23 : (Cond.instanceMethod yX6_insideSet) ∈ lw_tbl := wsL_in_r32 _ (List.mem_of_getElem? (i := 23) rfl)
theorem mw_32_22 : (Cond.methodLink RX6 174 yX6_insideSet) ∈ lw_tbl := wsL_in_r32 _ (List.mem_of_getElem? (i := 22) rfl)
theorem mw_32_21 : (Cond.code yX6_masked cX6_masked 3 (some .int)) ∈ lw_tbl := wsL_in_r32 _ (List.mem_of_getElem? (i := 21) rfl)
theorem mw_32_20 : (Cond.selects RX6 yX6_masked yX6_masked) ∈ lw_tbl := wsL_in_r32 _ (List.mem_of_getElem? (i := 20) rfl)
theorem mw_32_19 : (Cond.instanceMethod yX6_masked) ∈ lw_tbl := wsL_in_r32 _ (List.mem_of_getElem? (i := 19) rfl)
theorem mw_32_18 : (Cond.methodLink RX6 171 yX6_masked) ∈ lw_tbl := wsL_in_r32 _ (List.mem_of_getElem? (i := 18) rfl)
theorem memT_wsX6_count_r2 : ∀ w ∈ wsX6_count_r2, w ∈ lw_tbl := by
  unfold wsX6_count_r2
  exact (List.forall_mem_cons.mpr ⟨mw_11_2, (List.forall_mem_cons.mpr ⟨mw_11_3, (List.forall_mem_cons.mpr ⟨mw_11_4, (List.forall_mem_cons.mpr ⟨mw_32_18, (List.forall_mem_cons.mpr ⟨mw_32_19, (List.forall_mem_cons.mpr ⟨mw_32_20, (List.forall_mem_cons.mpr ⟨mw_32_21, (List.forall_mem_cons.mpr ⟨mw_32_22, (List.forall_mem_cons.mpr ⟨mw_32_23, (List.forall_mem_cons.mpr ⟨mw_33_0, (List.forall_mem_cons.mpr ⟨mw_33_1, (fun _ h => absurd h List.not_mem_nil)⟩)⟩)⟩)⟩)⟩)⟩)⟩)⟩)⟩)⟩)⟩)
theorem memT_wsX6_count : ∀ w ∈ wsX6_count, w ∈ lw_tbl := by
  unfold wsX6_count
  exact (List.forall_mem_cons.mpr ⟨mw_32_9, (List.forall_mem_append.mpr ⟨(List.forall_mem_append.mpr ⟨memT_wsX6_count_r1, memT_wsX6_count_r2⟩), inX6⟩)⟩)
theorem mw_32_8 : (Cond.selects RX6 yX6_count yX6_count) ∈ lw_tbl := wsL_in_r32 _ (List.mem_of_getElem? (i := 8) rfl)
theorem mw_32_7 : (Cond.instanceMethod yX6_count) ∈ lw_tbl := wsL_in_r32 _ (List.mem_of_getElem? (i := 7) rfl)
theorem mw_32_6 : (Cond.methodLink RL 174 yX6_count) ∈ lw_tbl := wsL_in_r32 _ (List.mem_of_getElem? (i := 6) rfl)
set_option maxRecDepth 20000 in
theorem gT_X6_count : GoodIn lw_tbl (wsV RL 174 RX6 yX6_count wsX6_count) := goodIn_sub (by
  unfold wsV
  exact List.forall_mem_append.mpr ⟨(List.forall_mem_cons.mpr ⟨mw_32_6, (List.forall_mem_cons.mpr ⟨mw_32_7, (List.forall_mem_cons.mpr ⟨mw_32_8, (List.forall_mem_cons.mpr ⟨mw_1_5, (fun _ h => absurd h List.not_mem_nil)⟩)⟩)⟩)⟩), memT_wsX6_count⟩) (by decide +kernel)
theorem mw_33_4 : (Cond.codeWith yL_line cL_line 4 (some .int) [(0, 9, 12, 21)]) ∈ lw_tbl := wsL_in_r33 _ (List.mem_of_getElem? (i := 4) rfl)
theorem mw_33_8 : (Cond.code yX5_line cX5_line 2 (some .int)) ∈ lw_tbl := wsL_in_r33 _ (List.mem_of_getElem? (i := 8) rfl)
theorem mw_33_7 : (Cond.selects RX5 yX5_line yX5_line) ∈ lw_tbl := wsL_in_r33 _ (List.mem_of_getElem? (i := 7) rfl)
theorem mw_33_6 : (Cond.instanceMethod yX5_line) ∈ lw_tbl := wsL_in_r33 _ (List.mem_of_getElem? (i := 6) rfl)
theorem mw_33_5 : (Cond.methodLink RL 73 yX5_line) ∈ lw_tbl := wsL_in_r33 _ (List.mem_of_getElem? (i := 5) rfl)
theorem memT_wsL_line : ∀ w ∈ wsL_line, w ∈ lw_tbl := by
  unfold wsL_line
  exact (List.forall_mem_cons.mpr ⟨mw_33_4, (List.forall_mem_append.mpr ⟨(List.forall_mem_append.mpr ⟨(List.forall_mem_append.mpr ⟨(List.forall_mem_append.mpr ⟨(List.forall_mem_cons.mpr ⟨mw_8_5, (List.forall_mem_cons.mpr ⟨mw_33_5, (List.forall_mem_cons.mpr ⟨mw_33_6, (List.forall_mem_cons.mpr ⟨mw_33_7, (List.forall_mem_cons.mpr ⟨mw_1_2, (List.forall_mem_cons.mpr ⟨mw_33_8, (List.forall_mem_cons.mpr ⟨mw_1_16, (List.forall_mem_cons.mpr ⟨mw_16_17, (List.forall_mem_cons.mpr ⟨mw_16_18, (List.forall_mem_cons.mpr ⟨mw_16_19, (List.forall_mem_cons.mpr ⟨mw_4_22, (List.forall_mem_cons.mpr ⟨mw_4_23, (List.forall_mem_cons.mpr ⟨mw_5_0, (List.forall_mem_cons.mpr ⟨mw_16_20, (List.forall_mem_cons.mpr ⟨mw_16_21, (List.forall_mem_cons.mpr ⟨mw_16_22, (List.forall_mem_cons.mpr ⟨mw_8_14, (List.forall_mem_cons.mpr ⟨mw_8_15, (List.forall_mem_cons.mpr ⟨mw_12_18, (List.forall_mem_cons.mpr ⟨mw_9_1, (List.forall_mem_cons.mpr ⟨mw_9_2, (fun _ h => absurd h List.not_mem_nil)⟩)⟩)⟩)⟩)⟩)⟩)⟩)⟩)⟩)⟩)⟩)⟩)⟩)⟩)⟩)⟩)⟩)⟩)⟩)⟩)⟩), inX5⟩), inX0⟩), inX3⟩), wsL_law__x2⟩)⟩)
theorem mw_33_3 : (Cond.static yL_line) ∈ lw_tbl := wsL_in_r33 _ (List.mem_of_getElem? (i := 3) rfl)
theorem mw_33_2 : (Cond.methodLink RL 175 yL_line) ∈ lw_tbl := wsL_in_r33 _ (List.mem_of_getElem? (i := 2) rfl)
set_option maxRecDepth 20000 in
theorem gT_L_line : GoodIn lw_tbl (va_wsS RL 175 yL_line wsL_line) := goodIn_sub (by
  unfold va_wsS
  exact List.forall_mem_append.mpr ⟨(List.forall_mem_cons.mpr ⟨mw_33_2, (List.forall_mem_cons.mpr ⟨mw_33_3, (List.forall_mem_cons.mpr ⟨mw_4_14, (fun _ h => absurd h List.not_mem_nil)⟩)⟩)⟩), memT_wsL_line⟩) (by decide +kernel)
theorem mw_33_12 : (Cond.code yX6_line cX6_line 2 (some .int)) ∈ lw_tbl := wsL_in_r33 _ (List.mem_of_getElem? (i := 12) rfl)
theorem memT_wsX6_line : ∀ w ∈ wsX6_line, w ∈ lw_tbl := by
  unfold wsX6_line
  exact (List.forall_mem_cons.mpr ⟨mw_33_12, (List.forall_mem_append.mpr ⟨(List.forall_mem_cons.mpr ⟨mw_17_9, (List.forall_mem_cons.mpr ⟨mw_17_10, (List.forall_mem_cons.mpr ⟨mw_1_5, (List.forall_mem_cons.mpr ⟨mw_17_11, (List.forall_mem_cons.mpr ⟨mw_7_1, (List.forall_mem_cons.mpr ⟨mw_7_2, (List.forall_mem_cons.mpr ⟨mw_7_3, (List.forall_mem_cons.mpr ⟨mw_7_4, (List.forall_mem_cons.mpr ⟨mw_7_5, (List.forall_mem_cons.mpr ⟨mw_7_6, (List.forall_mem_cons.mpr ⟨mw_7_7, (List.forall_mem_cons.mpr ⟨mw_7_8, (List.forall_mem_cons.mpr ⟨mw_11_1, (List.forall_mem_cons.mpr ⟨mw_11_2, (List.forall_mem_cons.mpr ⟨mw_11_3, (List.forall_mem_cons.mpr ⟨mw_11_4, (List.forall_mem_cons.mpr ⟨mw_4_9, (fun _ h => absurd h List.not_mem_nil)⟩)⟩)⟩)⟩)⟩)⟩)⟩)⟩)⟩)⟩)⟩)⟩)⟩)⟩)⟩)⟩)⟩), inX6⟩)⟩)
theorem mw_33_11 : (Cond.selects RX6 yX6_line yX6_line) ∈ lw_tbl := wsL_in_r33 _ (List.mem_of_getElem? (i := 11) rfl)
theorem mw_33_10 : (Cond.instanceMethod yX6_line) ∈ lw_tbl := wsL_in_r33 _ (List.mem_of_getElem? (i := 10) rfl)
theorem mw_33_9 : (Cond.methodLink RL 177 yX6_line) ∈ lw_tbl := wsL_in_r33 _ (List.mem_of_getElem? (i := 9) rfl)
set_option maxRecDepth 20000 in
theorem gT_X6_line : GoodIn lw_tbl (wsV RL 177 RX6 yX6_line wsX6_line) := goodIn_sub (by
  unfold wsV
  exact List.forall_mem_append.mpr ⟨(List.forall_mem_cons.mpr ⟨mw_33_9, (List.forall_mem_cons.mpr ⟨mw_33_10, (List.forall_mem_cons.mpr ⟨mw_33_11, (List.forall_mem_cons.mpr ⟨mw_1_5, (fun _ h => absurd h List.not_mem_nil)⟩)⟩)⟩)⟩), memT_wsX6_line⟩) (by decide +kernel)
theorem mw_33_15 : (Cond.codeWith yL_noLoan cL_noLoan 5 (some .int) [(0, 10, 13, 21)]) ∈ lw_tbl := wsL_in_r33 _ (List.mem_of_getElem? (i := 15) rfl)
theorem mw_33_19 : (Cond.code yX5_noLoan cX5_noLoan 3 (some .int)) ∈ lw_tbl := wsL_in_r33 _ (List.mem_of_getElem? (i := 19) rfl)
theorem mw_33_18 : (Cond.selects RX5 yX5_noLoan yX5_noLoan) ∈ lw_tbl := wsL_in_r33 _ (List.mem_of_getElem? (i := 18) rfl)
theorem mw_33_17 : (Cond.instanceMethod yX5_noLoan) ∈ lw_tbl := wsL_in_r33 _ (List.mem_of_getElem? (i := 17) rfl)
theorem mw_33_16 : (Cond.methodLink RL 76 yX5_noLoan) ∈ lw_tbl := wsL_in_r33 _ (List.mem_of_getElem? (i := 16) rfl)
theorem memT_wsL_noLoan_r1 : ∀ w ∈ wsL_noLoan_r1, w ∈ lw_tbl := by
  unfold wsL_noLoan_r1
  exact (List.forall_mem_cons.mpr ⟨mw_8_5, (List.forall_mem_cons.mpr ⟨mw_33_16, (List.forall_mem_cons.mpr ⟨mw_33_17, (List.forall_mem_cons.mpr ⟨mw_33_18, (List.forall_mem_cons.mpr ⟨mw_1_2, (List.forall_mem_cons.mpr ⟨mw_33_19, (List.forall_mem_cons.mpr ⟨mw_1_16, (List.forall_mem_cons.mpr ⟨mw_8_10, (List.forall_mem_cons.mpr ⟨mw_8_11, (List.forall_mem_cons.mpr ⟨mw_8_12, (List.forall_mem_cons.mpr ⟨mw_8_13, (List.forall_mem_cons.mpr ⟨mw_8_14, (List.forall_mem_cons.mpr ⟨mw_8_15, (List.forall_mem_cons.mpr ⟨mw_8_16, (List.forall_mem_cons.mpr ⟨mw_2_8, (List.forall_mem_cons.mpr ⟨mw_8_17, (List.forall_mem_cons.mpr ⟨mw_8_18, (List.forall_mem_cons.mpr ⟨mw_6_9, (List.forall_mem_cons.mpr ⟨mw_12_10, (List.forall_mem_cons.mpr ⟨mw_12_11, (List.forall_mem_cons.mpr ⟨mw_12_12, (List.forall_mem_cons.mpr ⟨mw_3_1, (List.forall_mem_cons.mpr ⟨mw_12_13, (List.forall_mem_cons.mpr ⟨mw_8_22, (fun _ h => absurd h List.not_mem_nil)⟩)⟩)⟩)⟩)⟩)⟩)⟩)⟩)⟩)⟩)⟩)⟩)⟩)⟩)⟩)⟩)⟩)⟩)⟩)⟩)⟩)⟩)⟩)⟩)
theorem memT_wsL_noLoan_r2 : ∀ w ∈ wsL_noLoan_r2, w ∈ lw_tbl := by
  unfold wsL_noLoan_r2
  exact (List.forall_mem_cons.mpr ⟨mw_8_23, (List.forall_mem_cons.mpr ⟨mw_9_0, (List.forall_mem_cons.mpr ⟨mw_3_2, (List.forall_mem_cons.mpr ⟨mw_9_1, (List.forall_mem_cons.mpr ⟨mw_9_2, (List.forall_mem_cons.mpr ⟨mw_12_14, (List.forall_mem_cons.mpr ⟨mw_9_3, (List.forall_mem_cons.mpr ⟨mw_9_4, (List.forall_mem_cons.mpr ⟨mw_9_5, (List.forall_mem_cons.mpr ⟨mw_3_4, (fun _ h => absurd h List.not_mem_nil)⟩)⟩)⟩)⟩)⟩)⟩)⟩)⟩)⟩)⟩)
theorem memT_wsL_noLoan : ∀ w ∈ wsL_noLoan, w ∈ lw_tbl := by
  unfold wsL_noLoan
  exact (List.forall_mem_cons.mpr ⟨mw_33_15, (List.forall_mem_append.mpr ⟨(List.forall_mem_append.mpr ⟨(List.forall_mem_append.mpr ⟨(List.forall_mem_append.mpr ⟨(List.forall_mem_append.mpr ⟨memT_wsL_noLoan_r1, memT_wsL_noLoan_r2⟩), inX5⟩), inX0⟩), inX1⟩), wsL_law__x2⟩)⟩)
theorem mw_33_14 : (Cond.static yL_noLoan) ∈ lw_tbl := wsL_in_r33 _ (List.mem_of_getElem? (i := 14) rfl)
theorem mw_33_13 : (Cond.methodLink RL 178 yL_noLoan) ∈ lw_tbl := wsL_in_r33 _ (List.mem_of_getElem? (i := 13) rfl)
set_option maxRecDepth 20000 in
theorem gT_L_noLoan : GoodIn lw_tbl (va_wsS RL 178 yL_noLoan wsL_noLoan) := goodIn_sub (by
  unfold va_wsS
  exact List.forall_mem_append.mpr ⟨(List.forall_mem_cons.mpr ⟨mw_33_13, (List.forall_mem_cons.mpr ⟨mw_33_14, (List.forall_mem_cons.mpr ⟨mw_4_14, (fun _ h => absurd h List.not_mem_nil)⟩)⟩)⟩), memT_wsL_noLoan⟩) (by decide +kernel)
theorem mw_33_23 : (Cond.code yX6_noLoan cX6_noLoan 3 (some .int)) ∈ lw_tbl := wsL_in_r33 _ (List.mem_of_getElem? (i := 23) rfl)
theorem memT_wsX6_noLoan_r1 : ∀ w ∈ wsX6_noLoan_r1, w ∈ lw_tbl := by
  unfold wsX6_noLoan_r1
  exact (List.forall_mem_cons.mpr ⟨mw_10_9, (List.forall_mem_cons.mpr ⟨mw_10_10, (List.forall_mem_cons.mpr ⟨mw_10_11, (List.forall_mem_cons.mpr ⟨mw_1_5, (List.forall_mem_cons.mpr ⟨mw_10_12, (List.forall_mem_cons.mpr ⟨mw_4_9, (List.forall_mem_cons.mpr ⟨mw_7_1, (List.forall_mem_cons.mpr ⟨mw_7_2, (List.forall_mem_cons.mpr ⟨mw_7_3, (List.forall_mem_cons.mpr ⟨mw_7_4, (List.forall_mem_cons.mpr ⟨mw_7_5, (List.forall_mem_cons.mpr ⟨mw_7_6, (List.forall_mem_cons.mpr ⟨mw_7_7, (List.forall_mem_cons.mpr ⟨mw_7_8, (List.forall_mem_cons.mpr ⟨mw_12_23, (List.forall_mem_cons.mpr ⟨mw_13_0, (List.forall_mem_cons.mpr ⟨mw_13_1, (List.forall_mem_cons.mpr ⟨mw_13_2, (List.forall_mem_cons.mpr ⟨mw_10_13, (List.forall_mem_cons.mpr ⟨mw_10_14, (List.forall_mem_cons.mpr ⟨mw_10_15, (List.forall_mem_cons.mpr ⟨mw_10_16, (List.forall_mem_cons.mpr ⟨mw_13_3, (List.forall_mem_cons.mpr ⟨mw_13_4, (fun _ h => absurd h List.not_mem_nil)⟩)⟩)⟩)⟩)⟩)⟩)⟩)⟩)⟩)⟩)⟩)⟩)⟩)⟩)⟩)⟩)⟩)⟩)⟩)⟩)⟩)⟩)⟩)⟩)
theorem memT_wsX6_noLoan_r2 : ∀ w ∈ wsX6_noLoan_r2, w ∈ lw_tbl := by
  unfold wsX6_noLoan_r2
  exact (List.forall_mem_cons.mpr ⟨mw_13_5, (List.forall_mem_cons.mpr ⟨mw_13_6, (fun _ h => absurd h List.not_mem_nil)⟩)⟩)
theorem memT_wsX6_noLoan : ∀ w ∈ wsX6_noLoan, w ∈ lw_tbl := by
  unfold wsX6_noLoan
  exact (List.forall_mem_cons.mpr ⟨mw_33_23, (List.forall_mem_append.mpr ⟨(List.forall_mem_append.mpr ⟨memT_wsX6_noLoan_r1, memT_wsX6_noLoan_r2⟩), inX6⟩)⟩)
theorem mw_33_22 : (Cond.selects RX6 yX6_noLoan yX6_noLoan) ∈ lw_tbl := wsL_in_r33 _ (List.mem_of_getElem? (i := 22) rfl)
theorem mw_33_21 : (Cond.instanceMethod yX6_noLoan) ∈ lw_tbl := wsL_in_r33 _ (List.mem_of_getElem? (i := 21) rfl)
theorem mw_33_20 : (Cond.methodLink RL 180 yX6_noLoan) ∈ lw_tbl := wsL_in_r33 _ (List.mem_of_getElem? (i := 20) rfl)
set_option maxRecDepth 20000 in
theorem gT_X6_noLoan : GoodIn lw_tbl (wsV RL 180 RX6 yX6_noLoan wsX6_noLoan) := goodIn_sub (by
  unfold wsV
  exact List.forall_mem_append.mpr ⟨(List.forall_mem_cons.mpr ⟨mw_33_20, (List.forall_mem_cons.mpr ⟨mw_33_21, (List.forall_mem_cons.mpr ⟨mw_33_22, (List.forall_mem_cons.mpr ⟨mw_1_5, (fun _ h => absurd h List.not_mem_nil)⟩)⟩)⟩)⟩), memT_wsX6_noLoan⟩) (by decide +kernel)
theorem mw_34_2 : (Cond.codeWith yL_whyNot cL_whyNot 5 (some .int) [(0, 10, 13, 21)]) ∈ lw_tbl := wsL_in_r34 _ (List.mem_of_getElem? (i := 2) rfl)
theorem mw_34_6 : (Cond.code yX5_whyNot cX5_whyNot 3 (some .int)) ∈ lw_tbl := wsL_in_r34 _ (List.mem_of_getElem? (i := 6) rfl)
theorem mw_34_5 : (Cond.selects RX5 yX5_whyNot yX5_whyNot) ∈ lw_tbl := wsL_in_r34 _ (List.mem_of_getElem? (i := 5) rfl)
theorem mw_34_4 : (Cond.instanceMethod yX5_whyNot) ∈ lw_tbl := wsL_in_r34 _ (List.mem_of_getElem? (i := 4) rfl)
theorem mw_34_3 : (Cond.methodLink RL 79 yX5_whyNot) ∈ lw_tbl := wsL_in_r34 _ (List.mem_of_getElem? (i := 3) rfl)
theorem memT_wsL_whyNot_r1 : ∀ w ∈ wsL_whyNot_r1, w ∈ lw_tbl := by
  unfold wsL_whyNot_r1
  exact (List.forall_mem_cons.mpr ⟨mw_8_5, (List.forall_mem_cons.mpr ⟨mw_34_3, (List.forall_mem_cons.mpr ⟨mw_34_4, (List.forall_mem_cons.mpr ⟨mw_34_5, (List.forall_mem_cons.mpr ⟨mw_1_2, (List.forall_mem_cons.mpr ⟨mw_34_6, (List.forall_mem_cons.mpr ⟨mw_1_16, (List.forall_mem_cons.mpr ⟨mw_8_10, (List.forall_mem_cons.mpr ⟨mw_8_11, (List.forall_mem_cons.mpr ⟨mw_8_12, (List.forall_mem_cons.mpr ⟨mw_8_13, (List.forall_mem_cons.mpr ⟨mw_8_14, (List.forall_mem_cons.mpr ⟨mw_8_15, (List.forall_mem_cons.mpr ⟨mw_8_16, (List.forall_mem_cons.mpr ⟨mw_2_8, (List.forall_mem_cons.mpr ⟨mw_8_17, (List.forall_mem_cons.mpr ⟨mw_8_18, (List.forall_mem_cons.mpr ⟨mw_6_9, (List.forall_mem_cons.mpr ⟨mw_14_15, (List.forall_mem_cons.mpr ⟨mw_1_15, (List.forall_mem_cons.mpr ⟨mw_14_16, (List.forall_mem_cons.mpr ⟨mw_14_17, (List.forall_mem_cons.mpr ⟨mw_2_9, (List.forall_mem_cons.mpr ⟨mw_9_1, (fun _ h => absurd h List.not_mem_nil)⟩)⟩)⟩)⟩)⟩)⟩)⟩)⟩)⟩)⟩)⟩)⟩)⟩)⟩)⟩)⟩)⟩)⟩)⟩)⟩)⟩)⟩)⟩)⟩)
theorem memT_wsL_whyNot_r2 : ∀ w ∈ wsL_whyNot_r2, w ∈ lw_tbl := by
  unfold wsL_whyNot_r2
  exact (List.forall_mem_cons.mpr ⟨mw_9_2, (List.forall_mem_cons.mpr ⟨mw_16_23, (List.forall_mem_cons.mpr ⟨mw_17_0, (List.forall_mem_cons.mpr ⟨mw_17_1, (List.forall_mem_cons.mpr ⟨mw_2_13, (List.forall_mem_cons.mpr ⟨mw_2_15, (List.forall_mem_cons.mpr ⟨mw_9_3, (List.forall_mem_cons.mpr ⟨mw_9_4, (List.forall_mem_cons.mpr ⟨mw_9_5, (List.forall_mem_cons.mpr ⟨mw_3_4, (List.forall_mem_cons.mpr ⟨mw_9_6, (List.forall_mem_cons.mpr ⟨mw_2_12, (List.forall_mem_cons.mpr ⟨mw_9_7, (List.forall_mem_cons.mpr ⟨mw_9_8, (List.forall_mem_cons.mpr ⟨mw_9_9, (List.forall_mem_cons.mpr ⟨mw_9_10, (List.forall_mem_cons.mpr ⟨mw_9_11, (List.forall_mem_cons.mpr ⟨mw_9_12, (List.forall_mem_cons.mpr ⟨mw_3_9, (List.forall_mem_cons.mpr ⟨mw_3_8, (fun _ h => absurd h List.not_mem_nil)⟩)⟩)⟩)⟩)⟩)⟩)⟩)⟩)⟩)⟩)⟩)⟩)⟩)⟩)⟩)⟩)⟩)⟩)⟩)⟩)
theorem memT_wsL_whyNot : ∀ w ∈ wsL_whyNot, w ∈ lw_tbl := by
  unfold wsL_whyNot
  exact (List.forall_mem_cons.mpr ⟨mw_34_2, (List.forall_mem_append.mpr ⟨(List.forall_mem_append.mpr ⟨(List.forall_mem_append.mpr ⟨(List.forall_mem_append.mpr ⟨(List.forall_mem_append.mpr ⟨(List.forall_mem_append.mpr ⟨memT_wsL_whyNot_r1, memT_wsL_whyNot_r2⟩), inX5⟩), inX0⟩), inX1⟩), inX3⟩), wsL_law__x2⟩)⟩)
theorem mw_34_1 : (Cond.static yL_whyNot) ∈ lw_tbl := wsL_in_r34 _ (List.mem_of_getElem? (i := 1) rfl)
theorem mw_34_0 : (Cond.methodLink RL 181 yL_whyNot) ∈ lw_tbl := wsL_in_r34 _ (List.mem_of_getElem? (i := 0) rfl)
set_option maxRecDepth 20000 in
theorem gT_L_whyNot : GoodIn lw_tbl (va_wsS RL 181 yL_whyNot wsL_whyNot) := goodIn_sub (by
  unfold va_wsS
  exact List.forall_mem_append.mpr ⟨(List.forall_mem_cons.mpr ⟨mw_34_0, (List.forall_mem_cons.mpr ⟨mw_34_1, (List.forall_mem_cons.mpr ⟨mw_4_14, (fun _ h => absurd h List.not_mem_nil)⟩)⟩)⟩), memT_wsL_whyNot⟩) (by decide +kernel)
theorem mw_34_10 : (Cond.code yX6_whyNot cX6_whyNot 3 (some .int)) ∈ lw_tbl := wsL_in_r34 _ (List.mem_of_getElem? (i := 10) rfl)
theorem memT_wsX6_whyNot_r1 : ∀ w ∈ wsX6_whyNot_r1, w ∈ lw_tbl := by
  unfold wsX6_whyNot_r1
  exact (List.forall_mem_cons.mpr ⟨mw_10_9, (List.forall_mem_cons.mpr ⟨mw_10_10, (List.forall_mem_cons.mpr ⟨mw_10_11, (List.forall_mem_cons.mpr ⟨mw_1_5, (List.forall_mem_cons.mpr ⟨mw_10_12, (List.forall_mem_cons.mpr ⟨mw_4_9, (List.forall_mem_cons.mpr ⟨mw_7_1, (List.forall_mem_cons.mpr ⟨mw_7_2, (List.forall_mem_cons.mpr ⟨mw_7_3, (List.forall_mem_cons.mpr ⟨mw_7_4, (List.forall_mem_cons.mpr ⟨mw_7_5, (List.forall_mem_cons.mpr ⟨mw_7_6, (List.forall_mem_cons.mpr ⟨mw_7_7, (List.forall_mem_cons.mpr ⟨mw_7_8, (List.forall_mem_cons.mpr ⟨mw_15_4, (List.forall_mem_cons.mpr ⟨mw_15_5, (List.forall_mem_cons.mpr ⟨mw_15_6, (List.forall_mem_cons.mpr ⟨mw_15_7, (List.forall_mem_cons.mpr ⟨mw_10_13, (List.forall_mem_cons.mpr ⟨mw_10_14, (List.forall_mem_cons.mpr ⟨mw_10_15, (List.forall_mem_cons.mpr ⟨mw_10_16, (List.forall_mem_cons.mpr ⟨mw_17_12, (List.forall_mem_cons.mpr ⟨mw_17_13, (fun _ h => absurd h List.not_mem_nil)⟩)⟩)⟩)⟩)⟩)⟩)⟩)⟩)⟩)⟩)⟩)⟩)⟩)⟩)⟩)⟩)⟩)⟩)⟩)⟩)⟩)⟩)⟩)⟩)
theorem memT_wsX6_whyNot_r2 : ∀ w ∈ wsX6_whyNot_r2, w ∈ lw_tbl := by
  unfold wsX6_whyNot_r2
  exact (List.forall_mem_cons.mpr ⟨mw_17_14, (List.forall_mem_cons.mpr ⟨mw_17_15, (List.forall_mem_cons.mpr ⟨mw_10_21, (List.forall_mem_cons.mpr ⟨mw_10_22, (List.forall_mem_cons.mpr ⟨mw_10_23, (List.forall_mem_cons.mpr ⟨mw_11_0, (List.forall_mem_cons.mpr ⟨mw_11_1, (List.forall_mem_cons.mpr ⟨mw_11_2, (List.forall_mem_cons.mpr ⟨mw_11_3, (List.forall_mem_cons.mpr ⟨mw_11_4, (List.forall_mem_cons.mpr ⟨mw_11_5, (List.forall_mem_cons.mpr ⟨mw_11_6, (List.forall_mem_cons.mpr ⟨mw_11_7, (List.forall_mem_cons.mpr ⟨mw_11_8, (fun _ h => absurd h List.not_mem_nil)⟩)⟩)⟩)⟩)⟩)⟩)⟩)⟩)⟩)⟩)⟩)⟩)⟩)⟩)
theorem memT_wsX6_whyNot : ∀ w ∈ wsX6_whyNot, w ∈ lw_tbl := by
  unfold wsX6_whyNot
  exact (List.forall_mem_cons.mpr ⟨mw_34_10, (List.forall_mem_append.mpr ⟨(List.forall_mem_append.mpr ⟨memT_wsX6_whyNot_r1, memT_wsX6_whyNot_r2⟩), inX6⟩)⟩)
theorem mw_34_9 : (Cond.selects RX6 yX6_whyNot yX6_whyNot) ∈ lw_tbl := wsL_in_r34 _ (List.mem_of_getElem? (i := 9) rfl)
theorem mw_34_8 : (Cond.instanceMethod yX6_whyNot) ∈ lw_tbl := wsL_in_r34 _ (List.mem_of_getElem? (i := 8) rfl)
theorem mw_34_7 : (Cond.methodLink RL 184 yX6_whyNot) ∈ lw_tbl := wsL_in_r34 _ (List.mem_of_getElem? (i := 7) rfl)
set_option maxRecDepth 20000 in
theorem gT_X6_whyNot : GoodIn lw_tbl (wsV RL 184 RX6 yX6_whyNot wsX6_whyNot) := goodIn_sub (by
  unfold wsV
  exact List.forall_mem_append.mpr ⟨(List.forall_mem_cons.mpr ⟨mw_34_7, (List.forall_mem_cons.mpr ⟨mw_34_8, (List.forall_mem_cons.mpr ⟨mw_34_9, (List.forall_mem_cons.mpr ⟨mw_1_5, (fun _ h => absurd h List.not_mem_nil)⟩)⟩)⟩)⟩), memT_wsX6_whyNot⟩) (by decide +kernel)
theorem mw_34_13 : (Cond.codeWith yL_ifOpened cL_ifOpened 6 (some .int) [(0, 12, 15, 21), (0, 12, 19, 13)]) ∈ lw_tbl := wsL_in_r34 _ (List.mem_of_getElem? (i := 13) rfl)
theorem mw_34_17 : (Cond.code yX5_ifOpened cX5_ifOpened 4 (some .int)) ∈ lw_tbl := wsL_in_r34 _ (List.mem_of_getElem? (i := 17) rfl)
theorem mw_34_16 : (Cond.selects RX5 yX5_ifOpened yX5_ifOpened) ∈ lw_tbl := wsL_in_r34 _ (List.mem_of_getElem? (i := 16) rfl)
theorem mw_34_15 : (Cond.instanceMethod yX5_ifOpened) ∈ lw_tbl := wsL_in_r34 _ (List.mem_of_getElem? (i := 15) rfl)
theorem mw_34_14 : (Cond.methodLink RL 83 yX5_ifOpened) ∈ lw_tbl := wsL_in_r34 _ (List.mem_of_getElem? (i := 14) rfl)
theorem memT_wsL_ifOpened_r1 : ∀ w ∈ wsL_ifOpened_r1, w ∈ lw_tbl := by
  unfold wsL_ifOpened_r1
  exact (List.forall_mem_cons.mpr ⟨mw_8_5, (List.forall_mem_cons.mpr ⟨mw_4_16, (List.forall_mem_cons.mpr ⟨mw_34_14, (List.forall_mem_cons.mpr ⟨mw_34_15, (List.forall_mem_cons.mpr ⟨mw_34_16, (List.forall_mem_cons.mpr ⟨mw_1_2, (List.forall_mem_cons.mpr ⟨mw_34_17, (List.forall_mem_cons.mpr ⟨mw_1_16, (List.forall_mem_cons.mpr ⟨mw_8_10, (List.forall_mem_cons.mpr ⟨mw_8_11, (List.forall_mem_cons.mpr ⟨mw_8_12, (List.forall_mem_cons.mpr ⟨mw_8_13, (List.forall_mem_cons.mpr ⟨mw_8_14, (List.forall_mem_cons.mpr ⟨mw_8_15, (List.forall_mem_cons.mpr ⟨mw_8_16, (List.forall_mem_cons.mpr ⟨mw_2_8, (List.forall_mem_cons.mpr ⟨mw_8_17, (List.forall_mem_cons.mpr ⟨mw_8_18, (List.forall_mem_cons.mpr ⟨mw_6_9, (List.forall_mem_cons.mpr ⟨mw_16_17, (List.forall_mem_cons.mpr ⟨mw_16_18, (List.forall_mem_cons.mpr ⟨mw_16_19, (List.forall_mem_cons.mpr ⟨mw_4_22, (List.forall_mem_cons.mpr ⟨mw_4_23, (fun _ h => absurd h List.not_mem_nil)⟩)⟩)⟩)⟩)⟩)⟩)⟩)⟩)⟩)⟩)⟩)⟩)⟩)⟩)⟩)⟩)⟩)⟩)⟩)⟩)⟩)⟩)⟩)⟩)
theorem mw_34_20 : (Cond.code yX0_gateNumber cX0_gateNumber 7 (some .int)) ∈ lw_tbl := wsL_in_r34 _ (List.mem_of_getElem? (i := 20) rfl)
theorem mw_34_19 : (Cond.selects RX0 yX0_gateNumber yX0_gateNumber) ∈ lw_tbl := wsL_in_r34 _ (List.mem_of_getElem? (i := 19) rfl)
theorem mw_34_18 : (Cond.instanceMethod yX0_gateNumber) ∈ lw_tbl := wsL_in_r34 _ (List.mem_of_getElem? (i := 18) rfl)
theorem memT_wsL_ifOpened_r2 : ∀ w ∈ wsL_ifOpened_r2, w ∈ lw_tbl := by
  unfold wsL_ifOpened_r2
  exact (List.forall_mem_cons.mpr ⟨mw_5_0, (List.forall_mem_cons.mpr ⟨mw_16_20, (List.forall_mem_cons.mpr ⟨mw_16_21, (List.forall_mem_cons.mpr ⟨mw_16_22, (List.forall_mem_cons.mpr ⟨mw_5_1, (List.forall_mem_cons.mpr ⟨mw_5_2, (List.forall_mem_cons.mpr ⟨mw_5_3, (List.forall_mem_cons.mpr ⟨mw_5_4, (List.forall_mem_cons.mpr ⟨mw_5_5, (List.forall_mem_cons.mpr ⟨mw_34_18, (List.forall_mem_cons.mpr ⟨mw_1_15, (List.forall_mem_cons.mpr ⟨mw_34_19, (List.forall_mem_cons.mpr ⟨mw_34_20, (List.forall_mem_cons.mpr ⟨mw_2_15, (List.forall_mem_cons.mpr ⟨mw_2_9, (List.forall_mem_cons.mpr ⟨mw_18_13, (List.forall_mem_cons.mpr ⟨mw_18_14, (List.forall_mem_cons.mpr ⟨mw_18_15, (List.forall_mem_cons.mpr ⟨mw_18_16, (List.forall_mem_cons.mpr ⟨mw_5_23, (List.forall_mem_cons.mpr ⟨mw_18_17, (List.forall_mem_cons.mpr ⟨mw_18_18, (List.forall_mem_cons.mpr ⟨mw_3_14, (List.forall_mem_cons.mpr ⟨mw_18_19, (fun _ h => absurd h List.not_mem_nil)⟩)⟩)⟩)⟩)⟩)⟩)⟩)⟩)⟩)⟩)⟩)⟩)⟩)⟩)⟩)⟩)⟩)⟩)⟩)⟩)⟩)⟩)⟩)⟩)
theorem memT_wsL_ifOpened_r3 : ∀ w ∈ wsL_ifOpened_r3, w ∈ lw_tbl := by
  unfold wsL_ifOpened_r3
  exact (List.forall_mem_cons.mpr ⟨mw_18_20, (List.forall_mem_cons.mpr ⟨mw_18_21, (List.forall_mem_cons.mpr ⟨mw_18_22, (List.forall_mem_cons.mpr ⟨mw_18_23, (List.forall_mem_cons.mpr ⟨mw_8_22, (List.forall_mem_cons.mpr ⟨mw_8_23, (List.forall_mem_cons.mpr ⟨mw_9_0, (List.forall_mem_cons.mpr ⟨mw_3_1, (List.forall_mem_cons.mpr ⟨mw_3_2, (List.forall_mem_cons.mpr ⟨mw_9_1, (List.forall_mem_cons.mpr ⟨mw_9_2, (List.forall_mem_cons.mpr ⟨mw_19_0, (List.forall_mem_cons.mpr ⟨mw_19_1, (List.forall_mem_cons.mpr ⟨mw_19_2, (List.forall_mem_cons.mpr ⟨mw_3_0, (List.forall_mem_cons.mpr ⟨mw_12_13, (List.forall_mem_cons.mpr ⟨mw_19_3, (List.forall_mem_cons.mpr ⟨mw_19_4, (List.forall_mem_cons.mpr ⟨mw_19_5, (List.forall_mem_cons.mpr ⟨mw_19_6, (List.forall_mem_cons.mpr ⟨mw_19_7, (List.forall_mem_cons.mpr ⟨mw_19_8, (List.forall_mem_cons.mpr ⟨mw_19_9, (List.forall_mem_cons.mpr ⟨mw_19_10, (fun _ h => absurd h List.not_mem_nil)⟩)⟩)⟩)⟩)⟩)⟩)⟩)⟩)⟩)⟩)⟩)⟩)⟩)⟩)⟩)⟩)⟩)⟩)⟩)⟩)⟩)⟩)⟩)⟩)
theorem memT_wsL_ifOpened_r4 : ∀ w ∈ wsL_ifOpened_r4, w ∈ lw_tbl := by
  unfold wsL_ifOpened_r4
  exact (List.forall_mem_cons.mpr ⟨mw_19_15, (List.forall_mem_cons.mpr ⟨mw_19_16, (List.forall_mem_cons.mpr ⟨mw_19_17, (List.forall_mem_cons.mpr ⟨mw_19_18, (List.forall_mem_cons.mpr ⟨mw_11_19, (List.forall_mem_cons.mpr ⟨mw_3_13, (List.forall_mem_cons.mpr ⟨mw_3_15, (List.forall_mem_cons.mpr ⟨mw_19_11, (List.forall_mem_cons.mpr ⟨mw_19_12, (List.forall_mem_cons.mpr ⟨mw_19_13, (List.forall_mem_cons.mpr ⟨mw_19_14, (fun _ h => absurd h List.not_mem_nil)⟩)⟩)⟩)⟩)⟩)⟩)⟩)⟩)⟩)⟩)⟩)
theorem memT_wsL_ifOpened : ∀ w ∈ wsL_ifOpened, w ∈ lw_tbl := by
  unfold wsL_ifOpened
  exact (List.forall_mem_cons.mpr ⟨mw_34_13, (List.forall_mem_append.mpr ⟨(List.forall_mem_append.mpr ⟨(List.forall_mem_append.mpr ⟨(List.forall_mem_append.mpr ⟨(List.forall_mem_append.mpr ⟨(List.forall_mem_append.mpr ⟨memT_wsL_ifOpened_r1, (List.forall_mem_append.mpr ⟨memT_wsL_ifOpened_r2, (List.forall_mem_append.mpr ⟨memT_wsL_ifOpened_r3, memT_wsL_ifOpened_r4⟩)⟩)⟩), inX5⟩), inX0⟩), inX1⟩), wsL_law__x2⟩), wsL_law__x0⟩)⟩)
theorem mw_34_12 : (Cond.static yL_ifOpened) ∈ lw_tbl := wsL_in_r34 _ (List.mem_of_getElem? (i := 12) rfl)
theorem mw_34_11 : (Cond.methodLink RL 185 yL_ifOpened) ∈ lw_tbl := wsL_in_r34 _ (List.mem_of_getElem? (i := 11) rfl)
set_option maxRecDepth 20000 in
theorem gT_L_ifOpened : GoodIn lw_tbl (va_wsS RL 185 yL_ifOpened wsL_ifOpened) := goodIn_sub (by
  unfold va_wsS
  exact List.forall_mem_append.mpr ⟨(List.forall_mem_cons.mpr ⟨mw_34_11, (List.forall_mem_cons.mpr ⟨mw_34_12, (List.forall_mem_cons.mpr ⟨mw_4_14, (fun _ h => absurd h List.not_mem_nil)⟩)⟩)⟩), memT_wsL_ifOpened⟩) (by decide +kernel)
theorem mw_35_0 : (Cond.code yX6_ifOpened cX6_ifOpened 5 (some .int)) ∈ lw_tbl := wsL_in_r35 _ (List.mem_of_getElem? (i := 0) rfl)
theorem mw_35_4 : (Cond.code yX6_wouldBring cX6_wouldBring 4 (some .int)) ∈ lw_tbl := wsL_in_r35 _ (List.mem_of_getElem? (i := 4) rfl)
theorem mw_35_3 : (Cond.selects RX6 yX6_wouldBring yX6_wouldBring) ∈ lw_tbl := wsL_in_r35 _ (List.mem_of_getElem? (i := 3) rfl)
theorem mw_35_2 : (Cond.instanceMethod yX6_wouldBring) ∈ lw_tbl := wsL_in_r35 _ (List.mem_of_getElem? (i := 2) rfl)
theorem mw_35_1 : (Cond.methodLink RX6 180 yX6_wouldBring) ∈ lw_tbl := wsL_in_r35 _ (List.mem_of_getElem? (i := 1) rfl)
theorem memT_wsX6_ifOpened_r1 : ∀ w ∈ wsX6_ifOpened_r1, w ∈ lw_tbl := by
  unfold wsX6_ifOpened_r1
  exact (List.forall_mem_cons.mpr ⟨mw_10_9, (List.forall_mem_cons.mpr ⟨mw_10_10, (List.forall_mem_cons.mpr ⟨mw_10_11, (List.forall_mem_cons.mpr ⟨mw_1_5, (List.forall_mem_cons.mpr ⟨mw_10_12, (List.forall_mem_cons.mpr ⟨mw_4_9, (List.forall_mem_cons.mpr ⟨mw_7_1, (List.forall_mem_cons.mpr ⟨mw_7_2, (List.forall_mem_cons.mpr ⟨mw_7_3, (List.forall_mem_cons.mpr ⟨mw_17_9, (List.forall_mem_cons.mpr ⟨mw_17_10, (List.forall_mem_cons.mpr ⟨mw_17_11, (List.forall_mem_cons.mpr ⟨mw_7_4, (List.forall_mem_cons.mpr ⟨mw_7_5, (List.forall_mem_cons.mpr ⟨mw_7_6, (List.forall_mem_cons.mpr ⟨mw_7_7, (List.forall_mem_cons.mpr ⟨mw_7_8, (List.forall_mem_cons.mpr ⟨mw_35_1, (List.forall_mem_cons.mpr ⟨mw_35_2, (List.forall_mem_cons.mpr ⟨mw_35_3, (List.forall_mem_cons.mpr ⟨mw_35_4, (List.forall_mem_cons.mpr ⟨mw_4_11, (List.forall_mem_cons.mpr ⟨mw_20_7, (List.forall_mem_cons.mpr ⟨mw_20_8, (fun _ h => absurd h List.not_mem_nil)⟩)⟩)⟩)⟩)⟩)⟩)⟩)⟩)⟩)⟩)⟩)⟩)⟩)⟩)⟩)⟩)⟩)⟩)⟩)⟩)⟩)⟩)⟩)⟩)
theorem memT_wsX6_ifOpened_r2 : ∀ w ∈ wsX6_ifOpened_r2, w ∈ lw_tbl := by
  unfold wsX6_ifOpened_r2
  exact (List.forall_mem_cons.mpr ⟨mw_20_9, (List.forall_mem_cons.mpr ⟨mw_20_10, (List.forall_mem_cons.mpr ⟨mw_10_13, (List.forall_mem_cons.mpr ⟨mw_10_14, (List.forall_mem_cons.mpr ⟨mw_10_15, (List.forall_mem_cons.mpr ⟨mw_10_16, (List.forall_mem_cons.mpr ⟨mw_20_11, (List.forall_mem_cons.mpr ⟨mw_20_12, (List.forall_mem_cons.mpr ⟨mw_20_13, (List.forall_mem_cons.mpr ⟨mw_20_14, (List.forall_mem_cons.mpr ⟨mw_20_15, (List.forall_mem_cons.mpr ⟨mw_20_16, (List.forall_mem_cons.mpr ⟨mw_20_17, (List.forall_mem_cons.mpr ⟨mw_20_18, (List.forall_mem_cons.mpr ⟨mw_12_0, (List.forall_mem_cons.mpr ⟨mw_12_1, (List.forall_mem_cons.mpr ⟨mw_12_2, (List.forall_mem_cons.mpr ⟨mw_13_3, (List.forall_mem_cons.mpr ⟨mw_13_4, (List.forall_mem_cons.mpr ⟨mw_13_5, (List.forall_mem_cons.mpr ⟨mw_13_6, (fun _ h => absurd h List.not_mem_nil)⟩)⟩)⟩)⟩)⟩)⟩)⟩)⟩)⟩)⟩)⟩)⟩)⟩)⟩)⟩)⟩)⟩)⟩)⟩)⟩)⟩)
theorem memT_wsX6_ifOpened : ∀ w ∈ wsX6_ifOpened, w ∈ lw_tbl := by
  unfold wsX6_ifOpened
  exact (List.forall_mem_cons.mpr ⟨mw_35_0, (List.forall_mem_append.mpr ⟨(List.forall_mem_append.mpr ⟨memT_wsX6_ifOpened_r1, memT_wsX6_ifOpened_r2⟩), inX6⟩)⟩)
theorem mw_34_23 : (Cond.selects RX6 yX6_ifOpened yX6_ifOpened) ∈ lw_tbl := wsL_in_r34 _ (List.mem_of_getElem? (i := 23) rfl)
theorem mw_34_22 : (Cond.instanceMethod yX6_ifOpened) ∈ lw_tbl := wsL_in_r34 _ (List.mem_of_getElem? (i := 22) rfl)
theorem mw_34_21 : (Cond.methodLink RL 187 yX6_ifOpened) ∈ lw_tbl := wsL_in_r34 _ (List.mem_of_getElem? (i := 21) rfl)
set_option maxRecDepth 20000 in
theorem gT_X6_ifOpened : GoodIn lw_tbl (wsV RL 187 RX6 yX6_ifOpened wsX6_ifOpened) := goodIn_sub (by
  unfold wsV
  exact List.forall_mem_append.mpr ⟨(List.forall_mem_cons.mpr ⟨mw_34_21, (List.forall_mem_cons.mpr ⟨mw_34_22, (List.forall_mem_cons.mpr ⟨mw_34_23, (List.forall_mem_cons.mpr ⟨mw_1_5, (fun _ h => absurd h List.not_mem_nil)⟩)⟩)⟩)⟩), memT_wsX6_ifOpened⟩) (by decide +kernel)
theorem mw_35_7 : (Cond.codeWith yL_bestGate cL_bestGate 4 (some .int) [(0, 9, 12, 21)]) ∈ lw_tbl := wsL_in_r35 _ (List.mem_of_getElem? (i := 7) rfl)
theorem mw_35_14 : (Cond.code yX0_gateOfFewestElls cX0_gateOfFewestElls 6 (some .int)) ∈ lw_tbl := wsL_in_r35 _ (List.mem_of_getElem? (i := 14) rfl)
theorem mw_35_13 : (Cond.selects RX0 yX0_gateOfFewestElls yX0_gateOfFewestElls) ∈ lw_tbl := wsL_in_r35 _ (List.mem_of_getElem? (i := 13) rfl)
theorem mw_35_12 : (Cond.instanceMethod yX0_gateOfFewestElls) ∈ lw_tbl := wsL_in_r35 _ (List.mem_of_getElem? (i := 12) rfl)
theorem mw_35_11 : (Cond.code yX5_bestGate cX5_bestGate 2 (some .int)) ∈ lw_tbl := wsL_in_r35 _ (List.mem_of_getElem? (i := 11) rfl)
theorem mw_35_10 : (Cond.selects RX5 yX5_bestGate yX5_bestGate) ∈ lw_tbl := wsL_in_r35 _ (List.mem_of_getElem? (i := 10) rfl)
theorem mw_35_9 : (Cond.instanceMethod yX5_bestGate) ∈ lw_tbl := wsL_in_r35 _ (List.mem_of_getElem? (i := 9) rfl)
theorem mw_35_8 : (Cond.methodLink RL 86 yX5_bestGate) ∈ lw_tbl := wsL_in_r35 _ (List.mem_of_getElem? (i := 8) rfl)
theorem memT_wsL_bestGate_r1 : ∀ w ∈ wsL_bestGate_r1, w ∈ lw_tbl := by
  unfold wsL_bestGate_r1
  exact (List.forall_mem_cons.mpr ⟨mw_8_5, (List.forall_mem_cons.mpr ⟨mw_35_8, (List.forall_mem_cons.mpr ⟨mw_35_9, (List.forall_mem_cons.mpr ⟨mw_35_10, (List.forall_mem_cons.mpr ⟨mw_1_2, (List.forall_mem_cons.mpr ⟨mw_35_11, (List.forall_mem_cons.mpr ⟨mw_1_16, (List.forall_mem_cons.mpr ⟨mw_8_10, (List.forall_mem_cons.mpr ⟨mw_8_11, (List.forall_mem_cons.mpr ⟨mw_8_12, (List.forall_mem_cons.mpr ⟨mw_8_13, (List.forall_mem_cons.mpr ⟨mw_8_14, (List.forall_mem_cons.mpr ⟨mw_8_15, (List.forall_mem_cons.mpr ⟨mw_8_16, (List.forall_mem_cons.mpr ⟨mw_2_8, (List.forall_mem_cons.mpr ⟨mw_8_17, (List.forall_mem_cons.mpr ⟨mw_8_18, (List.forall_mem_cons.mpr ⟨mw_6_9, (List.forall_mem_cons.mpr ⟨mw_35_12, (List.forall_mem_cons.mpr ⟨mw_1_15, (List.forall_mem_cons.mpr ⟨mw_35_13, (List.forall_mem_cons.mpr ⟨mw_35_14, (List.forall_mem_cons.mpr ⟨mw_2_13, (List.forall_mem_cons.mpr ⟨mw_18_13, (fun _ h => absurd h List.not_mem_nil)⟩)⟩)⟩)⟩)⟩)⟩)⟩)⟩)⟩)⟩)⟩)⟩)⟩)⟩)⟩)⟩)⟩)⟩)⟩)⟩)⟩)⟩)⟩)⟩)
theorem memT_wsL_bestGate_r2 : ∀ w ∈ wsL_bestGate_r2, w ∈ lw_tbl := by
  unfold wsL_bestGate_r2
  exact (List.forall_mem_cons.mpr ⟨mw_18_14, (List.forall_mem_cons.mpr ⟨mw_18_15, (List.forall_mem_cons.mpr ⟨mw_18_16, (List.forall_mem_cons.mpr ⟨mw_2_9, (List.forall_mem_cons.mpr ⟨mw_5_23, (List.forall_mem_cons.mpr ⟨mw_18_17, (List.forall_mem_cons.mpr ⟨mw_18_18, (List.forall_mem_cons.mpr ⟨mw_3_14, (List.forall_mem_cons.mpr ⟨mw_18_19, (List.forall_mem_cons.mpr ⟨mw_18_20, (List.forall_mem_cons.mpr ⟨mw_18_21, (List.forall_mem_cons.mpr ⟨mw_18_22, (List.forall_mem_cons.mpr ⟨mw_18_23, (List.forall_mem_cons.mpr ⟨mw_8_22, (List.forall_mem_cons.mpr ⟨mw_8_23, (List.forall_mem_cons.mpr ⟨mw_9_0, (List.forall_mem_cons.mpr ⟨mw_3_1, (List.forall_mem_cons.mpr ⟨mw_3_2, (List.forall_mem_cons.mpr ⟨mw_9_1, (List.forall_mem_cons.mpr ⟨mw_9_2, (List.forall_mem_cons.mpr ⟨mw_19_0, (List.forall_mem_cons.mpr ⟨mw_19_1, (List.forall_mem_cons.mpr ⟨mw_19_2, (List.forall_mem_cons.mpr ⟨mw_3_0, (fun _ h => absurd h List.not_mem_nil)⟩)⟩)⟩)⟩)⟩)⟩)⟩)⟩)⟩)⟩)⟩)⟩)⟩)⟩)⟩)⟩)⟩)⟩)⟩)⟩)⟩)⟩)⟩)⟩)
theorem memT_wsL_bestGate_r3 : ∀ w ∈ wsL_bestGate_r3, w ∈ lw_tbl := by
  unfold wsL_bestGate_r3
  exact (List.forall_mem_cons.mpr ⟨mw_12_13, (List.forall_mem_cons.mpr ⟨mw_19_3, (List.forall_mem_cons.mpr ⟨mw_19_4, (List.forall_mem_cons.mpr ⟨mw_19_5, (List.forall_mem_cons.mpr ⟨mw_19_6, (List.forall_mem_cons.mpr ⟨mw_2_15, (fun _ h => absurd h List.not_mem_nil)⟩)⟩)⟩)⟩)⟩)⟩)
theorem memT_wsL_bestGate : ∀ w ∈ wsL_bestGate, w ∈ lw_tbl := by
  unfold wsL_bestGate
  exact (List.forall_mem_cons.mpr ⟨mw_35_7, (List.forall_mem_append.mpr ⟨(List.forall_mem_append.mpr ⟨(List.forall_mem_append.mpr ⟨(List.forall_mem_append.mpr ⟨(List.forall_mem_append.mpr ⟨(List.forall_mem_append.mpr ⟨memT_wsL_bestGate_r1, (List.forall_mem_append.mpr ⟨memT_wsL_bestGate_r2, memT_wsL_bestGate_r3⟩)⟩), inX5⟩), inX0⟩), inX1⟩), inX3⟩), wsL_law__x2⟩)⟩)
theorem mw_35_6 : (Cond.static yL_bestGate) ∈ lw_tbl := wsL_in_r35 _ (List.mem_of_getElem? (i := 6) rfl)
theorem mw_35_5 : (Cond.methodLink RL 188 yL_bestGate) ∈ lw_tbl := wsL_in_r35 _ (List.mem_of_getElem? (i := 5) rfl)
set_option maxRecDepth 20000 in
theorem gT_L_bestGate : GoodIn lw_tbl (va_wsS RL 188 yL_bestGate wsL_bestGate) := goodIn_sub (by
  unfold va_wsS
  exact List.forall_mem_append.mpr ⟨(List.forall_mem_cons.mpr ⟨mw_35_5, (List.forall_mem_cons.mpr ⟨mw_35_6, (List.forall_mem_cons.mpr ⟨mw_4_14, (fun _ h => absurd h List.not_mem_nil)⟩)⟩)⟩), memT_wsL_bestGate⟩) (by decide +kernel)
theorem mw_35_18 : (Cond.code yX6_bestGate cX6_bestGate 2 (some .int)) ∈ lw_tbl := wsL_in_r35 _ (List.mem_of_getElem? (i := 18) rfl)
theorem mw_35_22 : (Cond.code yX6_best cX6_best 6 (some .int)) ∈ lw_tbl := wsL_in_r35 _ (List.mem_of_getElem? (i := 22) rfl)
theorem mw_35_21 : (Cond.selects RX6 yX6_best yX6_best) ∈ lw_tbl := wsL_in_r35 _ (List.mem_of_getElem? (i := 21) rfl)
theorem mw_35_20 : (Cond.instanceMethod yX6_best) ∈ lw_tbl := wsL_in_r35 _ (List.mem_of_getElem? (i := 20) rfl)
theorem mw_35_19 : (Cond.methodLink RX6 183 yX6_best) ∈ lw_tbl := wsL_in_r35 _ (List.mem_of_getElem? (i := 19) rfl)
theorem memT_wsX6_bestGate_r1 : ∀ w ∈ wsX6_bestGate_r1, w ∈ lw_tbl := by
  unfold wsX6_bestGate_r1
  exact (List.forall_mem_cons.mpr ⟨mw_10_9, (List.forall_mem_cons.mpr ⟨mw_10_10, (List.forall_mem_cons.mpr ⟨mw_10_11, (List.forall_mem_cons.mpr ⟨mw_1_5, (List.forall_mem_cons.mpr ⟨mw_10_12, (List.forall_mem_cons.mpr ⟨mw_4_9, (List.forall_mem_cons.mpr ⟨mw_7_1, (List.forall_mem_cons.mpr ⟨mw_7_2, (List.forall_mem_cons.mpr ⟨mw_7_3, (List.forall_mem_cons.mpr ⟨mw_7_4, (List.forall_mem_cons.mpr ⟨mw_7_5, (List.forall_mem_cons.mpr ⟨mw_7_6, (List.forall_mem_cons.mpr ⟨mw_7_7, (List.forall_mem_cons.mpr ⟨mw_7_8, (List.forall_mem_cons.mpr ⟨mw_35_19, (List.forall_mem_cons.mpr ⟨mw_35_20, (List.forall_mem_cons.mpr ⟨mw_35_21, (List.forall_mem_cons.mpr ⟨mw_35_22, (List.forall_mem_cons.mpr ⟨mw_35_1, (List.forall_mem_cons.mpr ⟨mw_35_2, (List.forall_mem_cons.mpr ⟨mw_35_3, (List.forall_mem_cons.mpr ⟨mw_35_4, (List.forall_mem_cons.mpr ⟨mw_4_11, (List.forall_mem_cons.mpr ⟨mw_20_7, (fun _ h => absurd h List.not_mem_nil)⟩)⟩)⟩)⟩)⟩)⟩)⟩)⟩)⟩)⟩)⟩)⟩)⟩)⟩)⟩)⟩)⟩)⟩)⟩)⟩)⟩)⟩)⟩)⟩)
theorem memT_wsX6_bestGate_r2 : ∀ w ∈ wsX6_bestGate_r2, w ∈ lw_tbl := by
  unfold wsX6_bestGate_r2
  exact (List.forall_mem_cons.mpr ⟨mw_20_8, (List.forall_mem_cons.mpr ⟨mw_20_9, (List.forall_mem_cons.mpr ⟨mw_20_10, (List.forall_mem_cons.mpr ⟨mw_10_13, (List.forall_mem_cons.mpr ⟨mw_10_14, (List.forall_mem_cons.mpr ⟨mw_10_15, (List.forall_mem_cons.mpr ⟨mw_10_16, (List.forall_mem_cons.mpr ⟨mw_20_11, (List.forall_mem_cons.mpr ⟨mw_20_12, (List.forall_mem_cons.mpr ⟨mw_20_13, (List.forall_mem_cons.mpr ⟨mw_20_14, (List.forall_mem_cons.mpr ⟨mw_20_15, (List.forall_mem_cons.mpr ⟨mw_20_16, (List.forall_mem_cons.mpr ⟨mw_20_17, (List.forall_mem_cons.mpr ⟨mw_20_18, (List.forall_mem_cons.mpr ⟨mw_12_0, (List.forall_mem_cons.mpr ⟨mw_12_1, (List.forall_mem_cons.mpr ⟨mw_12_2, (List.forall_mem_cons.mpr ⟨mw_13_3, (List.forall_mem_cons.mpr ⟨mw_13_4, (List.forall_mem_cons.mpr ⟨mw_13_5, (List.forall_mem_cons.mpr ⟨mw_13_6, (List.forall_mem_cons.mpr ⟨mw_11_1, (List.forall_mem_cons.mpr ⟨mw_11_2, (fun _ h => absurd h List.not_mem_nil)⟩)⟩)⟩)⟩)⟩)⟩)⟩)⟩)⟩)⟩)⟩)⟩)⟩)⟩)⟩)⟩)⟩)⟩)⟩)⟩)⟩)⟩)⟩)⟩)
theorem memT_wsX6_bestGate_r3 : ∀ w ∈ wsX6_bestGate_r3, w ∈ lw_tbl := by
  unfold wsX6_bestGate_r3
  exact (List.forall_mem_cons.mpr ⟨mw_11_3, (List.forall_mem_cons.mpr ⟨mw_11_4, (fun _ h => absurd h List.not_mem_nil)⟩)⟩)
theorem memT_wsX6_bestGate : ∀ w ∈ wsX6_bestGate, w ∈ lw_tbl := by
  unfold wsX6_bestGate
  exact (List.forall_mem_cons.mpr ⟨mw_35_18, (List.forall_mem_append.mpr ⟨(List.forall_mem_append.mpr ⟨memT_wsX6_bestGate_r1, (List.forall_mem_append.mpr ⟨memT_wsX6_bestGate_r2, memT_wsX6_bestGate_r3⟩)⟩), inX6⟩)⟩)
theorem mw_35_17 : (Cond.selects RX6 yX6_bestGate yX6_bestGate) ∈ lw_tbl := wsL_in_r35 _ (List.mem_of_getElem? (i := 17) rfl)
theorem mw_35_16 : (Cond.instanceMethod yX6_bestGate) ∈ lw_tbl := wsL_in_r35 _ (List.mem_of_getElem? (i := 16) rfl)
theorem mw_35_15 : (Cond.methodLink RL 190 yX6_bestGate) ∈ lw_tbl := wsL_in_r35 _ (List.mem_of_getElem? (i := 15) rfl)
set_option maxRecDepth 20000 in
theorem gT_X6_bestGate : GoodIn lw_tbl (wsV RL 190 RX6 yX6_bestGate wsX6_bestGate) := goodIn_sub (by
  unfold wsV
  exact List.forall_mem_append.mpr ⟨(List.forall_mem_cons.mpr ⟨mw_35_15, (List.forall_mem_cons.mpr ⟨mw_35_16, (List.forall_mem_cons.mpr ⟨mw_35_17, (List.forall_mem_cons.mpr ⟨mw_1_5, (fun _ h => absurd h List.not_mem_nil)⟩)⟩)⟩)⟩), memT_wsX6_bestGate⟩) (by decide +kernel)
theorem mw_36_1 : (Cond.codeWith yL_freeIn cL_freeIn 5 (some .int) [(0, 10, 13, 21)]) ∈ lw_tbl := wsL_in_r36 _ (List.mem_of_getElem? (i := 1) rfl)
theorem mw_36_5 : (Cond.code yX5_freeIn cX5_freeIn 3 (some .int)) ∈ lw_tbl := wsL_in_r36 _ (List.mem_of_getElem? (i := 5) rfl)
theorem mw_36_4 : (Cond.selects RX5 yX5_freeIn yX5_freeIn) ∈ lw_tbl := wsL_in_r36 _ (List.mem_of_getElem? (i := 4) rfl)
theorem mw_36_3 : (Cond.instanceMethod yX5_freeIn) ∈ lw_tbl := wsL_in_r36 _ (List.mem_of_getElem? (i := 3) rfl)
theorem mw_36_2 : (Cond.methodLink RL 89 yX5_freeIn) ∈ lw_tbl := wsL_in_r36 _ (List.mem_of_getElem? (i := 2) rfl)
theorem memT_wsL_freeIn_r1 : ∀ w ∈ wsL_freeIn_r1, w ∈ lw_tbl := by
  unfold wsL_freeIn_r1
  exact (List.forall_mem_cons.mpr ⟨mw_8_5, (List.forall_mem_cons.mpr ⟨mw_36_2, (List.forall_mem_cons.mpr ⟨mw_36_3, (List.forall_mem_cons.mpr ⟨mw_36_4, (List.forall_mem_cons.mpr ⟨mw_1_2, (List.forall_mem_cons.mpr ⟨mw_36_5, (List.forall_mem_cons.mpr ⟨mw_1_16, (List.forall_mem_cons.mpr ⟨mw_8_10, (List.forall_mem_cons.mpr ⟨mw_8_11, (List.forall_mem_cons.mpr ⟨mw_8_12, (List.forall_mem_cons.mpr ⟨mw_8_13, (List.forall_mem_cons.mpr ⟨mw_8_14, (List.forall_mem_cons.mpr ⟨mw_8_15, (List.forall_mem_cons.mpr ⟨mw_8_16, (List.forall_mem_cons.mpr ⟨mw_2_8, (List.forall_mem_cons.mpr ⟨mw_8_17, (List.forall_mem_cons.mpr ⟨mw_8_18, (List.forall_mem_cons.mpr ⟨mw_6_9, (List.forall_mem_cons.mpr ⟨mw_16_17, (List.forall_mem_cons.mpr ⟨mw_16_18, (List.forall_mem_cons.mpr ⟨mw_16_19, (List.forall_mem_cons.mpr ⟨mw_4_22, (List.forall_mem_cons.mpr ⟨mw_4_23, (List.forall_mem_cons.mpr ⟨mw_5_0, (fun _ h => absurd h List.not_mem_nil)⟩)⟩)⟩)⟩)⟩)⟩)⟩)⟩)⟩)⟩)⟩)⟩)⟩)⟩)⟩)⟩)⟩)⟩)⟩)⟩)⟩)⟩)⟩)⟩)
theorem mw_36_12 : (Cond.code yX0_allowsLace cX0_allowsLace 4 (some .boolean)) ∈ lw_tbl := wsL_in_r36 _ (List.mem_of_getElem? (i := 12) rfl)
theorem mw_36_11 : (Cond.selects RX0 yX0_allowsLace yX0_allowsLace) ∈ lw_tbl := wsL_in_r36 _ (List.mem_of_getElem? (i := 11) rfl)
theorem mw_36_10 : (Cond.instanceMethod yX0_allowsLace) ∈ lw_tbl := wsL_in_r36 _ (List.mem_of_getElem? (i := 10) rfl)
theorem mw_36_9 : (Cond.methodLink RX0 194 yX0_allowsLace) ∈ lw_tbl := wsL_in_r36 _ (List.mem_of_getElem? (i := 9) rfl)
theorem mw_36_8 : (Cond.code yX0_nightsUntilAllowed cX0_nightsUntilAllowed 4 (some .int)) ∈ lw_tbl := wsL_in_r36 _ (List.mem_of_getElem? (i := 8) rfl)
theorem mw_36_7 : (Cond.selects RX0 yX0_nightsUntilAllowed yX0_nightsUntilAllowed) ∈ lw_tbl := wsL_in_r36 _ (List.mem_of_getElem? (i := 7) rfl)
theorem mw_36_6 : (Cond.instanceMethod yX0_nightsUntilAllowed) ∈ lw_tbl := wsL_in_r36 _ (List.mem_of_getElem? (i := 6) rfl)
theorem memT_wsL_freeIn_r2 : ∀ w ∈ wsL_freeIn_r2, w ∈ lw_tbl := by
  unfold wsL_freeIn_r2
  exact (List.forall_mem_cons.mpr ⟨mw_16_20, (List.forall_mem_cons.mpr ⟨mw_16_21, (List.forall_mem_cons.mpr ⟨mw_16_22, (List.forall_mem_cons.mpr ⟨mw_36_6, (List.forall_mem_cons.mpr ⟨mw_1_15, (List.forall_mem_cons.mpr ⟨mw_36_7, (List.forall_mem_cons.mpr ⟨mw_36_8, (List.forall_mem_cons.mpr ⟨mw_5_23, (List.forall_mem_cons.mpr ⟨mw_36_9, (List.forall_mem_cons.mpr ⟨mw_36_10, (List.forall_mem_cons.mpr ⟨mw_36_11, (List.forall_mem_cons.mpr ⟨mw_36_12, (List.forall_mem_cons.mpr ⟨mw_2_9, (List.forall_mem_cons.mpr ⟨mw_19_0, (List.forall_mem_cons.mpr ⟨mw_19_1, (List.forall_mem_cons.mpr ⟨mw_19_2, (List.forall_mem_cons.mpr ⟨mw_3_0, (List.forall_mem_cons.mpr ⟨mw_12_13, (List.forall_mem_cons.mpr ⟨mw_8_22, (List.forall_mem_cons.mpr ⟨mw_8_23, (List.forall_mem_cons.mpr ⟨mw_9_0, (List.forall_mem_cons.mpr ⟨mw_3_1, (List.forall_mem_cons.mpr ⟨mw_3_2, (List.forall_mem_cons.mpr ⟨mw_9_1, (fun _ h => absurd h List.not_mem_nil)⟩)⟩)⟩)⟩)⟩)⟩)⟩)⟩)⟩)⟩)⟩)⟩)⟩)⟩)⟩)⟩)⟩)⟩)⟩)⟩)⟩)⟩)⟩)⟩)
theorem memT_wsL_freeIn_r3 : ∀ w ∈ wsL_freeIn_r3, w ∈ lw_tbl := by
  unfold wsL_freeIn_r3
  exact (List.forall_mem_cons.mpr ⟨mw_9_2, (List.forall_mem_cons.mpr ⟨mw_19_3, (List.forall_mem_cons.mpr ⟨mw_19_4, (List.forall_mem_cons.mpr ⟨mw_19_5, (List.forall_mem_cons.mpr ⟨mw_19_6, (List.forall_mem_cons.mpr ⟨mw_2_15, (List.forall_mem_cons.mpr ⟨mw_18_17, (List.forall_mem_cons.mpr ⟨mw_18_18, (List.forall_mem_cons.mpr ⟨mw_3_14, (List.forall_mem_cons.mpr ⟨mw_18_19, (fun _ h => absurd h List.not_mem_nil)⟩)⟩)⟩)⟩)⟩)⟩)⟩)⟩)⟩)⟩)
theorem memT_wsL_freeIn : ∀ w ∈ wsL_freeIn, w ∈ lw_tbl := by
  unfold wsL_freeIn
  exact (List.forall_mem_cons.mpr ⟨mw_36_1, (List.forall_mem_append.mpr ⟨(List.forall_mem_append.mpr ⟨(List.forall_mem_append.mpr ⟨(List.forall_mem_append.mpr ⟨(List.forall_mem_append.mpr ⟨memT_wsL_freeIn_r1, (List.forall_mem_append.mpr ⟨memT_wsL_freeIn_r2, memT_wsL_freeIn_r3⟩)⟩), inX5⟩), inX0⟩), inX1⟩), wsL_law__x2⟩)⟩)
theorem mw_36_0 : (Cond.static yL_freeIn) ∈ lw_tbl := wsL_in_r36 _ (List.mem_of_getElem? (i := 0) rfl)
theorem mw_35_23 : (Cond.methodLink RL 191 yL_freeIn) ∈ lw_tbl := wsL_in_r35 _ (List.mem_of_getElem? (i := 23) rfl)
set_option maxRecDepth 20000 in
theorem gT_L_freeIn : GoodIn lw_tbl (va_wsS RL 191 yL_freeIn wsL_freeIn) := goodIn_sub (by
  unfold va_wsS
  exact List.forall_mem_append.mpr ⟨(List.forall_mem_cons.mpr ⟨mw_35_23, (List.forall_mem_cons.mpr ⟨mw_36_0, (List.forall_mem_cons.mpr ⟨mw_4_14, (fun _ h => absurd h List.not_mem_nil)⟩)⟩)⟩), memT_wsL_freeIn⟩) (by decide +kernel)
theorem mw_36_16 : (Cond.code yX6_freeIn cX6_freeIn 3 (some .int)) ∈ lw_tbl := wsL_in_r36 _ (List.mem_of_getElem? (i := 16) rfl)
theorem mw_36_20 : (Cond.code yX6_free cX6_free 4 (some .int)) ∈ lw_tbl := wsL_in_r36 _ (List.mem_of_getElem? (i := 20) rfl)
theorem mw_36_19 : (Cond.selects RX6 yX6_free yX6_free) ∈ lw_tbl := wsL_in_r36 _ (List.mem_of_getElem? (i := 19) rfl)
theorem mw_36_18 : (Cond.instanceMethod yX6_free) ∈ lw_tbl := wsL_in_r36 _ (List.mem_of_getElem? (i := 18) rfl)
theorem mw_36_17 : (Cond.methodLink RX6 186 yX6_free) ∈ lw_tbl := wsL_in_r36 _ (List.mem_of_getElem? (i := 17) rfl)
theorem memT_wsX6_freeIn_r1 : ∀ w ∈ wsX6_freeIn_r1, w ∈ lw_tbl := by
  unfold wsX6_freeIn_r1
  exact (List.forall_mem_cons.mpr ⟨mw_10_9, (List.forall_mem_cons.mpr ⟨mw_10_10, (List.forall_mem_cons.mpr ⟨mw_10_11, (List.forall_mem_cons.mpr ⟨mw_1_5, (List.forall_mem_cons.mpr ⟨mw_10_12, (List.forall_mem_cons.mpr ⟨mw_4_9, (List.forall_mem_cons.mpr ⟨mw_7_1, (List.forall_mem_cons.mpr ⟨mw_7_2, (List.forall_mem_cons.mpr ⟨mw_7_3, (List.forall_mem_cons.mpr ⟨mw_17_9, (List.forall_mem_cons.mpr ⟨mw_17_10, (List.forall_mem_cons.mpr ⟨mw_17_11, (List.forall_mem_cons.mpr ⟨mw_7_4, (List.forall_mem_cons.mpr ⟨mw_7_5, (List.forall_mem_cons.mpr ⟨mw_7_6, (List.forall_mem_cons.mpr ⟨mw_7_7, (List.forall_mem_cons.mpr ⟨mw_7_8, (List.forall_mem_cons.mpr ⟨mw_36_17, (List.forall_mem_cons.mpr ⟨mw_36_18, (List.forall_mem_cons.mpr ⟨mw_36_19, (List.forall_mem_cons.mpr ⟨mw_36_20, (List.forall_mem_cons.mpr ⟨mw_20_11, (List.forall_mem_cons.mpr ⟨mw_20_12, (List.forall_mem_cons.mpr ⟨mw_20_13, (fun _ h => absurd h List.not_mem_nil)⟩)⟩)⟩)⟩)⟩)⟩)⟩)⟩)⟩)⟩)⟩)⟩)⟩)⟩)⟩)⟩)⟩)⟩)⟩)⟩)⟩)⟩)⟩)⟩)
theorem memT_wsX6_freeIn_r2 : ∀ w ∈ wsX6_freeIn_r2, w ∈ lw_tbl := by
  unfold wsX6_freeIn_r2
  exact (List.forall_mem_cons.mpr ⟨mw_20_14, (List.forall_mem_cons.mpr ⟨mw_10_13, (List.forall_mem_cons.mpr ⟨mw_10_14, (List.forall_mem_cons.mpr ⟨mw_10_15, (List.forall_mem_cons.mpr ⟨mw_10_16, (List.forall_mem_cons.mpr ⟨mw_20_15, (List.forall_mem_cons.mpr ⟨mw_20_16, (List.forall_mem_cons.mpr ⟨mw_20_17, (List.forall_mem_cons.mpr ⟨mw_20_18, (fun _ h => absurd h List.not_mem_nil)⟩)⟩)⟩)⟩)⟩)⟩)⟩)⟩)⟩)
theorem memT_wsX6_freeIn : ∀ w ∈ wsX6_freeIn, w ∈ lw_tbl := by
  unfold wsX6_freeIn
  exact (List.forall_mem_cons.mpr ⟨mw_36_16, (List.forall_mem_append.mpr ⟨(List.forall_mem_append.mpr ⟨memT_wsX6_freeIn_r1, memT_wsX6_freeIn_r2⟩), inX6⟩)⟩)
theorem mw_36_15 : (Cond.selects RX6 yX6_freeIn yX6_freeIn) ∈ lw_tbl := wsL_in_r36 _ (List.mem_of_getElem? (i := 15) rfl)
theorem mw_36_14 : (Cond.instanceMethod yX6_freeIn) ∈ lw_tbl := wsL_in_r36 _ (List.mem_of_getElem? (i := 14) rfl)
theorem mw_36_13 : (Cond.methodLink RL 193 yX6_freeIn) ∈ lw_tbl := wsL_in_r36 _ (List.mem_of_getElem? (i := 13) rfl)
set_option maxRecDepth 20000 in
theorem gT_X6_freeIn : GoodIn lw_tbl (wsV RL 193 RX6 yX6_freeIn wsX6_freeIn) := goodIn_sub (by
  unfold wsV
  exact List.forall_mem_append.mpr ⟨(List.forall_mem_cons.mpr ⟨mw_36_13, (List.forall_mem_cons.mpr ⟨mw_36_14, (List.forall_mem_cons.mpr ⟨mw_36_15, (List.forall_mem_cons.mpr ⟨mw_1_5, (fun _ h => absurd h List.not_mem_nil)⟩)⟩)⟩)⟩), memT_wsX6_freeIn⟩) (by decide +kernel)
theorem mw_37_0 : (Cond.code yX5_decentShare cX5_decentShare 1 (some .double)) ∈ lw_tbl := wsL_in_r37 _ (List.mem_of_getElem? (i := 0) rfl)
theorem mw_37_3 : (Cond.code yX0_shareOfDecent cX0_shareOfDecent 3 (some .double)) ∈ lw_tbl := wsL_in_r37 _ (List.mem_of_getElem? (i := 3) rfl)
theorem mw_37_2 : (Cond.selects RX0 yX0_shareOfDecent yX0_shareOfDecent) ∈ lw_tbl := wsL_in_r37 _ (List.mem_of_getElem? (i := 2) rfl)
theorem mw_37_1 : (Cond.instanceMethod yX0_shareOfDecent) ∈ lw_tbl := wsL_in_r37 _ (List.mem_of_getElem? (i := 1) rfl)
theorem memT_wsX5_decentShare_r1 : ∀ w ∈ wsX5_decentShare_r1, w ∈ lw_tbl := by
  unfold wsX5_decentShare_r1
  exact (List.forall_mem_cons.mpr ⟨mw_1_16, (List.forall_mem_cons.mpr ⟨mw_37_1, (List.forall_mem_cons.mpr ⟨mw_1_15, (List.forall_mem_cons.mpr ⟨mw_37_2, (List.forall_mem_cons.mpr ⟨mw_37_3, (List.forall_mem_cons.mpr ⟨mw_2_9, (List.forall_mem_cons.mpr ⟨mw_5_23, (List.forall_mem_cons.mpr ⟨mw_36_9, (List.forall_mem_cons.mpr ⟨mw_36_10, (List.forall_mem_cons.mpr ⟨mw_36_11, (List.forall_mem_cons.mpr ⟨mw_36_12, (List.forall_mem_cons.mpr ⟨mw_19_0, (List.forall_mem_cons.mpr ⟨mw_2_8, (List.forall_mem_cons.mpr ⟨mw_19_1, (List.forall_mem_cons.mpr ⟨mw_19_2, (List.forall_mem_cons.mpr ⟨mw_3_0, (List.forall_mem_cons.mpr ⟨mw_12_13, (List.forall_mem_cons.mpr ⟨mw_8_22, (List.forall_mem_cons.mpr ⟨mw_8_23, (List.forall_mem_cons.mpr ⟨mw_9_0, (List.forall_mem_cons.mpr ⟨mw_3_1, (List.forall_mem_cons.mpr ⟨mw_3_2, (List.forall_mem_cons.mpr ⟨mw_9_1, (List.forall_mem_cons.mpr ⟨mw_1_2, (fun _ h => absurd h List.not_mem_nil)⟩)⟩)⟩)⟩)⟩)⟩)⟩)⟩)⟩)⟩)⟩)⟩)⟩)⟩)⟩)⟩)⟩)⟩)⟩)⟩)⟩)⟩)⟩)⟩)
theorem memT_wsX5_decentShare_r2 : ∀ w ∈ wsX5_decentShare_r2, w ∈ lw_tbl := by
  unfold wsX5_decentShare_r2
  exact (List.forall_mem_cons.mpr ⟨mw_9_2, (List.forall_mem_cons.mpr ⟨mw_19_3, (List.forall_mem_cons.mpr ⟨mw_19_4, (List.forall_mem_cons.mpr ⟨mw_19_5, (List.forall_mem_cons.mpr ⟨mw_19_6, (List.forall_mem_cons.mpr ⟨mw_2_15, (List.forall_mem_cons.mpr ⟨mw_18_17, (List.forall_mem_cons.mpr ⟨mw_18_18, (List.forall_mem_cons.mpr ⟨mw_3_14, (List.forall_mem_cons.mpr ⟨mw_18_19, (fun _ h => absurd h List.not_mem_nil)⟩)⟩)⟩)⟩)⟩)⟩)⟩)⟩)⟩)⟩)
theorem memT_wsX5_decentShare : ∀ w ∈ wsX5_decentShare, w ∈ lw_tbl := by
  unfold wsX5_decentShare
  exact (List.forall_mem_cons.mpr ⟨mw_37_0, (List.forall_mem_append.mpr ⟨(List.forall_mem_append.mpr ⟨(List.forall_mem_append.mpr ⟨(List.forall_mem_append.mpr ⟨memT_wsX5_decentShare_r1, memT_wsX5_decentShare_r2⟩), inX5⟩), inX0⟩), inX1⟩)⟩)
theorem mw_36_23 : (Cond.selects RX5 yX5_decentShare yX5_decentShare) ∈ lw_tbl := wsL_in_r36 _ (List.mem_of_getElem? (i := 23) rfl)
theorem mw_36_22 : (Cond.instanceMethod yX5_decentShare) ∈ lw_tbl := wsL_in_r36 _ (List.mem_of_getElem? (i := 22) rfl)
theorem mw_36_21 : (Cond.methodLink RL 194 yX5_decentShare) ∈ lw_tbl := wsL_in_r36 _ (List.mem_of_getElem? (i := 21) rfl)
set_option maxRecDepth 20000 in
theorem gT_X5_decentShare : GoodIn lw_tbl (wsV RL 194 RX5 yX5_decentShare wsX5_decentShare) := goodIn_sub (by
  unfold wsV
  exact List.forall_mem_append.mpr ⟨(List.forall_mem_cons.mpr ⟨mw_36_21, (List.forall_mem_cons.mpr ⟨mw_36_22, (List.forall_mem_cons.mpr ⟨mw_36_23, (List.forall_mem_cons.mpr ⟨mw_1_2, (fun _ h => absurd h List.not_mem_nil)⟩)⟩)⟩)⟩), memT_wsX5_decentShare⟩) (by decide +kernel)
theorem mw_37_7 : (Cond.code yX6_decentShare cX6_decentShare 1 (some .double)) ∈ lw_tbl := wsL_in_r37 _ (List.mem_of_getElem? (i := 7) rfl)
theorem mw_37_11 : (Cond.code yX6_decent cX6_decent 3 (some .double)) ∈ lw_tbl := wsL_in_r37 _ (List.mem_of_getElem? (i := 11) rfl)
theorem mw_37_10 : (Cond.selects RX6 yX6_decent yX6_decent) ∈ lw_tbl := wsL_in_r37 _ (List.mem_of_getElem? (i := 10) rfl)
theorem mw_37_9 : (Cond.instanceMethod yX6_decent) ∈ lw_tbl := wsL_in_r37 _ (List.mem_of_getElem? (i := 9) rfl)
theorem mw_37_8 : (Cond.methodLink RX6 189 yX6_decent) ∈ lw_tbl := wsL_in_r37 _ (List.mem_of_getElem? (i := 8) rfl)
theorem memT_wsX6_decentShare : ∀ w ∈ wsX6_decentShare, w ∈ lw_tbl := by
  unfold wsX6_decentShare
  exact (List.forall_mem_cons.mpr ⟨mw_37_7, (List.forall_mem_append.mpr ⟨(List.forall_mem_cons.mpr ⟨mw_7_8, (List.forall_mem_cons.mpr ⟨mw_37_8, (List.forall_mem_cons.mpr ⟨mw_37_9, (List.forall_mem_cons.mpr ⟨mw_37_10, (List.forall_mem_cons.mpr ⟨mw_1_5, (List.forall_mem_cons.mpr ⟨mw_37_11, (List.forall_mem_cons.mpr ⟨mw_4_9, (List.forall_mem_cons.mpr ⟨mw_20_11, (List.forall_mem_cons.mpr ⟨mw_20_12, (List.forall_mem_cons.mpr ⟨mw_20_13, (List.forall_mem_cons.mpr ⟨mw_20_14, (List.forall_mem_cons.mpr ⟨mw_10_13, (List.forall_mem_cons.mpr ⟨mw_10_14, (List.forall_mem_cons.mpr ⟨mw_10_15, (List.forall_mem_cons.mpr ⟨mw_10_16, (List.forall_mem_cons.mpr ⟨mw_20_15, (List.forall_mem_cons.mpr ⟨mw_20_16, (List.forall_mem_cons.mpr ⟨mw_20_17, (List.forall_mem_cons.mpr ⟨mw_20_18, (fun _ h => absurd h List.not_mem_nil)⟩)⟩)⟩)⟩)⟩)⟩)⟩)⟩)⟩)⟩)⟩)⟩)⟩)⟩)⟩)⟩)⟩)⟩)⟩), inX6⟩)⟩)
theorem mw_37_6 : (Cond.selects RX6 yX6_decentShare yX6_decentShare) ∈ lw_tbl := wsL_in_r37 _ (List.mem_of_getElem? (i := 6) rfl)
theorem mw_37_5 : (Cond.instanceMethod yX6_decentShare) ∈ lw_tbl := wsL_in_r37 _ (List.mem_of_getElem? (i := 5) rfl)
theorem mw_37_4 : (Cond.methodLink RL 198 yX6_decentShare) ∈ lw_tbl := wsL_in_r37 _ (List.mem_of_getElem? (i := 4) rfl)
set_option maxRecDepth 20000 in
theorem gT_X6_decentShare : GoodIn lw_tbl (wsV RL 198 RX6 yX6_decentShare wsX6_decentShare) := goodIn_sub (by
  unfold wsV
  exact List.forall_mem_append.mpr ⟨(List.forall_mem_cons.mpr ⟨mw_37_4, (List.forall_mem_cons.mpr ⟨mw_37_5, (List.forall_mem_cons.mpr ⟨mw_37_6, (List.forall_mem_cons.mpr ⟨mw_1_5, (fun _ h => absurd h List.not_mem_nil)⟩)⟩)⟩)⟩), memT_wsX6_decentShare⟩) (by decide +kernel)
theorem mw_37_15 : (Cond.code yX5_digest cX5_digest 4 (some .long)) ∈ lw_tbl := wsL_in_r37 _ (List.mem_of_getElem? (i := 15) rfl)
theorem mw_37_16 : (Cond.constantLong RX5 216 (3923)) ∈ lw_tbl := wsL_in_r37 _ (List.mem_of_getElem? (i := 16) rfl)
theorem memT_wsX5_digest_r1 : ∀ w ∈ wsX5_digest_r1, w ∈ lw_tbl := by
  unfold wsX5_digest_r1
  exact (List.forall_mem_cons.mpr ⟨mw_37_16, (List.forall_mem_cons.mpr ⟨mw_1_16, (List.forall_mem_cons.mpr ⟨mw_2_1, (List.forall_mem_cons.mpr ⟨mw_31_17, (List.forall_mem_cons.mpr ⟨mw_31_18, (List.forall_mem_cons.mpr ⟨mw_31_19, (List.forall_mem_cons.mpr ⟨mw_1_2, (List.forall_mem_cons.mpr ⟨mw_31_20, (List.forall_mem_cons.mpr ⟨mw_1_21, (List.forall_mem_cons.mpr ⟨mw_31_21, (List.forall_mem_cons.mpr ⟨mw_1_15, (List.forall_mem_cons.mpr ⟨mw_31_22, (List.forall_mem_cons.mpr ⟨mw_31_23, (List.forall_mem_cons.mpr ⟨mw_5_23, (List.forall_mem_cons.mpr ⟨mw_2_9, (List.forall_mem_cons.mpr ⟨mw_2_13, (List.forall_mem_cons.mpr ⟨mw_6_0, (List.forall_mem_cons.mpr ⟨mw_6_2, (List.forall_mem_cons.mpr ⟨mw_6_1, (List.forall_mem_cons.mpr ⟨mw_6_3, (List.forall_mem_cons.mpr ⟨mw_6_4, (List.forall_mem_cons.mpr ⟨mw_6_5, (List.forall_mem_cons.mpr ⟨mw_2_15, (List.forall_mem_cons.mpr ⟨mw_21_2, (fun _ h => absurd h List.not_mem_nil)⟩)⟩)⟩)⟩)⟩)⟩)⟩)⟩)⟩)⟩)⟩)⟩)⟩)⟩)⟩)⟩)⟩)⟩)⟩)⟩)⟩)⟩)⟩)⟩)
theorem mw_37_22 : (Cond.instanceMethod yX5_mixGuest) ∈ lw_tbl := wsL_in_r37 _ (List.mem_of_getElem? (i := 22) rfl)
theorem mw_37_21 : (Cond.methodLink RX5 222 yX5_mixGuest) ∈ lw_tbl := wsL_in_r37 _ (List.mem_of_getElem? (i := 21) rfl)
theorem mw_37_20 : (Cond.constantLong RX5 290 (31)) ∈ lw_tbl := wsL_in_r37 _ (List.mem_of_getElem? (i := 20) rfl)
theorem mw_37_19 : (Cond.code yX5_mix cX5_mix 4 (some .long)) ∈ lw_tbl := wsL_in_r37 _ (List.mem_of_getElem? (i := 19) rfl)
theorem mw_37_18 : (Cond.static yX5_mix) ∈ lw_tbl := wsL_in_r37 _ (List.mem_of_getElem? (i := 18) rfl)
theorem mw_37_17 : (Cond.methodLink RX5 218 yX5_mix) ∈ lw_tbl := wsL_in_r37 _ (List.mem_of_getElem? (i := 17) rfl)
theorem memT_wsX5_digest_r2 : ∀ w ∈ wsX5_digest_r2, w ∈ lw_tbl := by
  unfold wsX5_digest_r2
  exact (List.forall_mem_cons.mpr ⟨mw_21_3, (List.forall_mem_cons.mpr ⟨mw_12_18, (List.forall_mem_cons.mpr ⟨mw_9_1, (List.forall_mem_cons.mpr ⟨mw_9_2, (List.forall_mem_cons.mpr ⟨mw_32_0, (List.forall_mem_cons.mpr ⟨mw_2_8, (List.forall_mem_cons.mpr ⟨mw_32_1, (List.forall_mem_cons.mpr ⟨mw_32_2, (List.forall_mem_cons.mpr ⟨mw_6_9, (List.forall_mem_cons.mpr ⟨mw_3_3, (List.forall_mem_cons.mpr ⟨mw_32_3, (List.forall_mem_cons.mpr ⟨mw_32_4, (List.forall_mem_cons.mpr ⟨mw_32_5, (List.forall_mem_cons.mpr ⟨mw_12_14, (List.forall_mem_cons.mpr ⟨mw_9_3, (List.forall_mem_cons.mpr ⟨mw_9_4, (List.forall_mem_cons.mpr ⟨mw_9_5, (List.forall_mem_cons.mpr ⟨mw_3_4, (List.forall_mem_cons.mpr ⟨mw_37_17, (List.forall_mem_cons.mpr ⟨mw_37_18, (List.forall_mem_cons.mpr ⟨mw_37_19, (List.forall_mem_cons.mpr ⟨mw_37_20, (List.forall_mem_cons.mpr ⟨mw_37_21, (List.forall_mem_cons.mpr ⟨mw_37_22, (fun _ h => absurd h List.not_mem_nil)⟩)⟩)⟩)⟩)⟩)⟩)⟩)⟩)⟩)⟩)⟩)⟩)⟩)⟩)⟩)⟩)⟩)⟩)⟩)⟩)⟩)⟩)⟩)⟩)
theorem mw_38_0 : (Cond.code yX5_mixGuest cX5_mixGuest 8 (some .long)) ∈ lw_tbl := wsL_in_r38 _ (List.mem_of_getElem? (i := 0) rfl)
theorem mw_37_23 : (Cond.selects RX5 yX5_mixGuest yX5_mixGuest) ∈ lw_tbl := wsL_in_r37 _ (List.mem_of_getElem? (i := 23) rfl)
theorem memT_wsX5_digest_r3 : ∀ w ∈ wsX5_digest_r3, w ∈ lw_tbl := by
  unfold wsX5_digest_r3
  exact (List.forall_mem_cons.mpr ⟨mw_37_23, (List.forall_mem_cons.mpr ⟨mw_38_0, (List.forall_mem_cons.mpr ⟨mw_30_9, (List.forall_mem_cons.mpr ⟨mw_30_10, (List.forall_mem_cons.mpr ⟨mw_30_11, (List.forall_mem_cons.mpr ⟨mw_8_22, (List.forall_mem_cons.mpr ⟨mw_8_23, (List.forall_mem_cons.mpr ⟨mw_9_0, (List.forall_mem_cons.mpr ⟨mw_3_1, (List.forall_mem_cons.mpr ⟨mw_3_2, (List.forall_mem_cons.mpr ⟨mw_19_0, (List.forall_mem_cons.mpr ⟨mw_19_1, (List.forall_mem_cons.mpr ⟨mw_19_2, (List.forall_mem_cons.mpr ⟨mw_3_0, (List.forall_mem_cons.mpr ⟨mw_12_13, (List.forall_mem_cons.mpr ⟨mw_9_6, (List.forall_mem_cons.mpr ⟨mw_2_12, (List.forall_mem_cons.mpr ⟨mw_9_7, (List.forall_mem_cons.mpr ⟨mw_9_8, (List.forall_mem_cons.mpr ⟨mw_9_9, (List.forall_mem_cons.mpr ⟨mw_9_10, (List.forall_mem_cons.mpr ⟨mw_9_11, (List.forall_mem_cons.mpr ⟨mw_9_12, (List.forall_mem_cons.mpr ⟨mw_3_9, (fun _ h => absurd h List.not_mem_nil)⟩)⟩)⟩)⟩)⟩)⟩)⟩)⟩)⟩)⟩)⟩)⟩)⟩)⟩)⟩)⟩)⟩)⟩)⟩)⟩)⟩)⟩)⟩)⟩)
theorem memT_wsX5_digest_r4 : ∀ w ∈ wsX5_digest_r4, w ∈ lw_tbl := by
  unfold wsX5_digest_r4
  exact (List.forall_mem_cons.mpr ⟨mw_3_8, (List.forall_mem_cons.mpr ⟨mw_30_12, (List.forall_mem_cons.mpr ⟨mw_30_13, (List.forall_mem_cons.mpr ⟨mw_30_14, (List.forall_mem_cons.mpr ⟨mw_14_15, (List.forall_mem_cons.mpr ⟨mw_14_16, (List.forall_mem_cons.mpr ⟨mw_14_17, (List.forall_mem_cons.mpr ⟨mw_16_23, (List.forall_mem_cons.mpr ⟨mw_17_0, (List.forall_mem_cons.mpr ⟨mw_17_1, (List.forall_mem_cons.mpr ⟨mw_35_12, (List.forall_mem_cons.mpr ⟨mw_35_13, (List.forall_mem_cons.mpr ⟨mw_35_14, (List.forall_mem_cons.mpr ⟨mw_18_13, (List.forall_mem_cons.mpr ⟨mw_18_14, (List.forall_mem_cons.mpr ⟨mw_18_15, (List.forall_mem_cons.mpr ⟨mw_18_16, (List.forall_mem_cons.mpr ⟨mw_18_17, (List.forall_mem_cons.mpr ⟨mw_18_18, (List.forall_mem_cons.mpr ⟨mw_3_14, (List.forall_mem_cons.mpr ⟨mw_18_19, (List.forall_mem_cons.mpr ⟨mw_18_20, (List.forall_mem_cons.mpr ⟨mw_18_21, (List.forall_mem_cons.mpr ⟨mw_18_22, (fun _ h => absurd h List.not_mem_nil)⟩)⟩)⟩)⟩)⟩)⟩)⟩)⟩)⟩)⟩)⟩)⟩)⟩)⟩)⟩)⟩)⟩)⟩)⟩)⟩)⟩)⟩)⟩)⟩)
theorem memT_wsX5_digest_r5 : ∀ w ∈ wsX5_digest_r5, w ∈ lw_tbl := by
  unfold wsX5_digest_r5
  exact (List.forall_mem_cons.mpr ⟨mw_18_23, (List.forall_mem_cons.mpr ⟨mw_19_3, (List.forall_mem_cons.mpr ⟨mw_19_4, (List.forall_mem_cons.mpr ⟨mw_19_5, (List.forall_mem_cons.mpr ⟨mw_19_6, (List.forall_mem_cons.mpr ⟨mw_34_18, (List.forall_mem_cons.mpr ⟨mw_34_19, (List.forall_mem_cons.mpr ⟨mw_34_20, (List.forall_mem_cons.mpr ⟨mw_19_7, (List.forall_mem_cons.mpr ⟨mw_19_8, (List.forall_mem_cons.mpr ⟨mw_19_9, (List.forall_mem_cons.mpr ⟨mw_19_10, (List.forall_mem_cons.mpr ⟨mw_19_15, (List.forall_mem_cons.mpr ⟨mw_19_16, (List.forall_mem_cons.mpr ⟨mw_19_17, (List.forall_mem_cons.mpr ⟨mw_19_18, (List.forall_mem_cons.mpr ⟨mw_11_19, (List.forall_mem_cons.mpr ⟨mw_3_13, (List.forall_mem_cons.mpr ⟨mw_3_15, (List.forall_mem_cons.mpr ⟨mw_19_11, (List.forall_mem_cons.mpr ⟨mw_19_12, (List.forall_mem_cons.mpr ⟨mw_19_13, (List.forall_mem_cons.mpr ⟨mw_19_14, (List.forall_mem_cons.mpr ⟨mw_36_6, (fun _ h => absurd h List.not_mem_nil)⟩)⟩)⟩)⟩)⟩)⟩)⟩)⟩)⟩)⟩)⟩)⟩)⟩)⟩)⟩)⟩)⟩)⟩)⟩)⟩)⟩)⟩)⟩)⟩)
theorem mw_38_7 : (Cond.code yX5_bitsOf cX5_bitsOf 7 (some .long)) ∈ lw_tbl := wsL_in_r38 _ (List.mem_of_getElem? (i := 7) rfl)
theorem mw_38_6 : (Cond.static yX5_bitsOf) ∈ lw_tbl := wsL_in_r38 _ (List.mem_of_getElem? (i := 6) rfl)
theorem mw_38_5 : (Cond.methodLink RX5 229 yX5_bitsOf) ∈ lw_tbl := wsL_in_r38 _ (List.mem_of_getElem? (i := 5) rfl)
theorem mw_38_4 : (Cond.code yX5_mixGate cX5_mixGate 8 (some .long)) ∈ lw_tbl := wsL_in_r38 _ (List.mem_of_getElem? (i := 4) rfl)
theorem mw_38_3 : (Cond.selects RX5 yX5_mixGate yX5_mixGate) ∈ lw_tbl := wsL_in_r38 _ (List.mem_of_getElem? (i := 3) rfl)
theorem mw_38_2 : (Cond.instanceMethod yX5_mixGate) ∈ lw_tbl := wsL_in_r38 _ (List.mem_of_getElem? (i := 2) rfl)
theorem mw_38_1 : (Cond.methodLink RX5 226 yX5_mixGate) ∈ lw_tbl := wsL_in_r38 _ (List.mem_of_getElem? (i := 1) rfl)
theorem memT_wsX5_digest_r6 : ∀ w ∈ wsX5_digest_r6, w ∈ lw_tbl := by
  unfold wsX5_digest_r6
  exact (List.forall_mem_cons.mpr ⟨mw_36_7, (List.forall_mem_cons.mpr ⟨mw_36_8, (List.forall_mem_cons.mpr ⟨mw_36_9, (List.forall_mem_cons.mpr ⟨mw_36_10, (List.forall_mem_cons.mpr ⟨mw_36_11, (List.forall_mem_cons.mpr ⟨mw_36_12, (List.forall_mem_cons.mpr ⟨mw_38_1, (List.forall_mem_cons.mpr ⟨mw_38_2, (List.forall_mem_cons.mpr ⟨mw_38_3, (List.forall_mem_cons.mpr ⟨mw_38_4, (List.forall_mem_cons.mpr ⟨mw_18_10, (List.forall_mem_cons.mpr ⟨mw_18_11, (List.forall_mem_cons.mpr ⟨mw_18_12, (List.forall_mem_cons.mpr ⟨mw_28_9, (List.forall_mem_cons.mpr ⟨mw_28_10, (List.forall_mem_cons.mpr ⟨mw_28_11, (List.forall_mem_cons.mpr ⟨mw_2_16, (List.forall_mem_cons.mpr ⟨mw_2_17, (List.forall_mem_cons.mpr ⟨mw_37_1, (List.forall_mem_cons.mpr ⟨mw_37_2, (List.forall_mem_cons.mpr ⟨mw_37_3, (List.forall_mem_cons.mpr ⟨mw_38_5, (List.forall_mem_cons.mpr ⟨mw_38_6, (List.forall_mem_cons.mpr ⟨mw_38_7, (fun _ h => absurd h List.not_mem_nil)⟩)⟩)⟩)⟩)⟩)⟩)⟩)⟩)⟩)⟩)⟩)⟩)⟩)⟩)⟩)⟩)⟩)⟩)⟩)⟩)⟩)⟩)⟩)⟩)
theorem mw_38_10 : (Cond.constantDouble RX5 299 (4841369599423283200)) ∈ lw_tbl := wsL_in_r38 _ (List.mem_of_getElem? (i := 10) rfl)
theorem mw_38_9 : (Cond.constantDouble RX5 297 (4611686018427387904)) ∈ lw_tbl := wsL_in_r38 _ (List.mem_of_getElem? (i := 9) rfl)
theorem mw_38_8 : (Cond.constantLong RX5 295 (1023)) ∈ lw_tbl := wsL_in_r38 _ (List.mem_of_getElem? (i := 8) rfl)
theorem memT_wsX5_digest_r7 : ∀ w ∈ wsX5_digest_r7, w ∈ lw_tbl := by
  unfold wsX5_digest_r7
  exact (List.forall_mem_cons.mpr ⟨mw_38_8, (List.forall_mem_cons.mpr ⟨mw_38_9, (List.forall_mem_cons.mpr ⟨mw_38_10, (List.forall_mem_cons.mpr ⟨mw_23_20, (List.forall_mem_cons.mpr ⟨mw_2_0, (List.forall_mem_cons.mpr ⟨mw_23_21, (List.forall_mem_cons.mpr ⟨mw_23_22, (List.forall_mem_cons.mpr ⟨mw_22_22, (List.forall_mem_cons.mpr ⟨mw_4_4, (fun _ h => absurd h List.not_mem_nil)⟩)⟩)⟩)⟩)⟩)⟩)⟩)⟩)⟩)
theorem memT_wsX5_digest : ∀ w ∈ wsX5_digest, w ∈ lw_tbl := by
  unfold wsX5_digest
  exact (List.forall_mem_cons.mpr ⟨mw_37_15, (List.forall_mem_append.mpr ⟨(List.forall_mem_append.mpr ⟨(List.forall_mem_append.mpr ⟨(List.forall_mem_append.mpr ⟨(List.forall_mem_append.mpr ⟨(List.forall_mem_append.mpr ⟨(List.forall_mem_append.mpr ⟨memT_wsX5_digest_r1, (List.forall_mem_append.mpr ⟨memT_wsX5_digest_r2, (List.forall_mem_append.mpr ⟨memT_wsX5_digest_r3, (List.forall_mem_append.mpr ⟨memT_wsX5_digest_r4, (List.forall_mem_append.mpr ⟨memT_wsX5_digest_r5, (List.forall_mem_append.mpr ⟨memT_wsX5_digest_r6, memT_wsX5_digest_r7⟩)⟩)⟩)⟩)⟩)⟩), inX5⟩), inX0⟩), inX1⟩), inX4⟩), inX2⟩), inX3⟩)⟩)
theorem mw_37_14 : (Cond.selects RX5 yX5_digest yX5_digest) ∈ lw_tbl := wsL_in_r37 _ (List.mem_of_getElem? (i := 14) rfl)
theorem mw_37_13 : (Cond.instanceMethod yX5_digest) ∈ lw_tbl := wsL_in_r37 _ (List.mem_of_getElem? (i := 13) rfl)
theorem mw_37_12 : (Cond.methodLink RL 199 yX5_digest) ∈ lw_tbl := wsL_in_r37 _ (List.mem_of_getElem? (i := 12) rfl)
set_option maxRecDepth 20000 in
theorem gT_X5_digest : GoodIn lw_tbl (wsV RL 199 RX5 yX5_digest wsX5_digest) := goodIn_sub (by
  unfold wsV
  exact List.forall_mem_append.mpr ⟨(List.forall_mem_cons.mpr ⟨mw_37_12, (List.forall_mem_cons.mpr ⟨mw_37_13, (List.forall_mem_cons.mpr ⟨mw_37_14, (List.forall_mem_cons.mpr ⟨mw_1_2, (fun _ h => absurd h List.not_mem_nil)⟩)⟩)⟩)⟩), memT_wsX5_digest⟩) (by decide +kernel)
theorem mw_38_14 : (Cond.code yX6_digest cX6_digest 3 (some .long)) ∈ lw_tbl := wsL_in_r38 _ (List.mem_of_getElem? (i := 14) rfl)
theorem mw_38_16 : (Cond.fieldLink RX6 195 "LaceRanksModel" "hash" "J") ∈ lw_tbl := wsL_in_r38 _ (List.mem_of_getElem? (i := 16) rfl)
theorem mw_38_15 : (Cond.constantLong RX6 211 (3923)) ∈ lw_tbl := wsL_in_r38 _ (List.mem_of_getElem? (i := 15) rfl)
theorem memT_wsX6_digest_r1 : ∀ w ∈ wsX6_digest_r1, w ∈ lw_tbl := by
  unfold wsX6_digest_r1
  exact (List.forall_mem_cons.mpr ⟨mw_7_8, (List.forall_mem_cons.mpr ⟨mw_38_15, (List.forall_mem_cons.mpr ⟨mw_38_16, (List.forall_mem_cons.mpr ⟨mw_4_9, (List.forall_mem_cons.mpr ⟨mw_23_3, (List.forall_mem_cons.mpr ⟨mw_4_10, (List.forall_mem_cons.mpr ⟨mw_32_10, (List.forall_mem_cons.mpr ⟨mw_32_11, (List.forall_mem_cons.mpr ⟨mw_32_12, (List.forall_mem_cons.mpr ⟨mw_1_5, (List.forall_mem_cons.mpr ⟨mw_32_13, (List.forall_mem_cons.mpr ⟨mw_7_13, (List.forall_mem_cons.mpr ⟨mw_32_14, (List.forall_mem_cons.mpr ⟨mw_32_15, (List.forall_mem_cons.mpr ⟨mw_32_16, (List.forall_mem_cons.mpr ⟨mw_32_17, (List.forall_mem_cons.mpr ⟨mw_10_13, (List.forall_mem_cons.mpr ⟨mw_10_14, (List.forall_mem_cons.mpr ⟨mw_10_15, (List.forall_mem_cons.mpr ⟨mw_10_16, (List.forall_mem_cons.mpr ⟨mw_11_1, (List.forall_mem_cons.mpr ⟨mw_11_2, (List.forall_mem_cons.mpr ⟨mw_11_3, (List.forall_mem_cons.mpr ⟨mw_11_4, (fun _ h => absurd h List.not_mem_nil)⟩)⟩)⟩)⟩)⟩)⟩)⟩)⟩)⟩)⟩)⟩)⟩)⟩)⟩)⟩)⟩)⟩)⟩)⟩)⟩)⟩)⟩)⟩)⟩)
theorem mw_39_1 : (Cond.code yX6_mixGuest cX6_mixGuest 4 none) ∈ lw_tbl := wsL_in_r39 _ (List.mem_of_getElem? (i := 1) rfl)
theorem mw_39_0 : (Cond.selects RX6 yX6_mixGuest yX6_mixGuest) ∈ lw_tbl := wsL_in_r39 _ (List.mem_of_getElem? (i := 0) rfl)
theorem mw_38_23 : (Cond.instanceMethod yX6_mixGuest) ∈ lw_tbl := wsL_in_r38 _ (List.mem_of_getElem? (i := 23) rfl)
theorem mw_38_22 : (Cond.methodLink RX6 213 yX6_mixGuest) ∈ lw_tbl := wsL_in_r38 _ (List.mem_of_getElem? (i := 22) rfl)
theorem mw_38_21 : (Cond.constantLong RX6 193 (31)) ∈ lw_tbl := wsL_in_r38 _ (List.mem_of_getElem? (i := 21) rfl)
theorem mw_38_20 : (Cond.code yX6_mix cX6_mix 3 none) ∈ lw_tbl := wsL_in_r38 _ (List.mem_of_getElem? (i := 20) rfl)
theorem mw_38_19 : (Cond.selects RX6 yX6_mix yX6_mix) ∈ lw_tbl := wsL_in_r38 _ (List.mem_of_getElem? (i := 19) rfl)
theorem mw_38_18 : (Cond.instanceMethod yX6_mix) ∈ lw_tbl := wsL_in_r38 _ (List.mem_of_getElem? (i := 18) rfl)
theorem mw_38_17 : (Cond.methodLink RX6 207 yX6_mix) ∈ lw_tbl := wsL_in_r38 _ (List.mem_of_getElem? (i := 17) rfl)
theorem memT_wsX6_digest_r2 : ∀ w ∈ wsX6_digest_r2, w ∈ lw_tbl := by
  unfold wsX6_digest_r2
  exact (List.forall_mem_cons.mpr ⟨mw_32_18, (List.forall_mem_cons.mpr ⟨mw_32_19, (List.forall_mem_cons.mpr ⟨mw_32_20, (List.forall_mem_cons.mpr ⟨mw_32_21, (List.forall_mem_cons.mpr ⟨mw_32_22, (List.forall_mem_cons.mpr ⟨mw_32_23, (List.forall_mem_cons.mpr ⟨mw_33_0, (List.forall_mem_cons.mpr ⟨mw_33_1, (List.forall_mem_cons.mpr ⟨mw_38_17, (List.forall_mem_cons.mpr ⟨mw_38_18, (List.forall_mem_cons.mpr ⟨mw_38_19, (List.forall_mem_cons.mpr ⟨mw_38_20, (List.forall_mem_cons.mpr ⟨mw_38_21, (List.forall_mem_cons.mpr ⟨mw_38_22, (List.forall_mem_cons.mpr ⟨mw_38_23, (List.forall_mem_cons.mpr ⟨mw_39_0, (List.forall_mem_cons.mpr ⟨mw_39_1, (List.forall_mem_cons.mpr ⟨mw_30_19, (List.forall_mem_cons.mpr ⟨mw_30_20, (List.forall_mem_cons.mpr ⟨mw_30_21, (List.forall_mem_cons.mpr ⟨mw_30_22, (List.forall_mem_cons.mpr ⟨mw_10_21, (List.forall_mem_cons.mpr ⟨mw_10_22, (List.forall_mem_cons.mpr ⟨mw_10_23, (fun _ h => absurd h List.not_mem_nil)⟩)⟩)⟩)⟩)⟩)⟩)⟩)⟩)⟩)⟩)⟩)⟩)⟩)⟩)⟩)⟩)⟩)⟩)⟩)⟩)⟩)⟩)⟩)⟩)
theorem memT_wsX6_digest_r3 : ∀ w ∈ wsX6_digest_r3, w ∈ lw_tbl := by
  unfold wsX6_digest_r3
  exact (List.forall_mem_cons.mpr ⟨mw_11_0, (List.forall_mem_cons.mpr ⟨mw_11_5, (List.forall_mem_cons.mpr ⟨mw_11_6, (List.forall_mem_cons.mpr ⟨mw_11_7, (List.forall_mem_cons.mpr ⟨mw_11_8, (List.forall_mem_cons.mpr ⟨mw_20_11, (List.forall_mem_cons.mpr ⟨mw_20_12, (List.forall_mem_cons.mpr ⟨mw_20_13, (List.forall_mem_cons.mpr ⟨mw_20_14, (List.forall_mem_cons.mpr ⟨mw_10_17, (List.forall_mem_cons.mpr ⟨mw_10_18, (List.forall_mem_cons.mpr ⟨mw_10_19, (List.forall_mem_cons.mpr ⟨mw_10_20, (List.forall_mem_cons.mpr ⟨mw_15_4, (List.forall_mem_cons.mpr ⟨mw_15_5, (List.forall_mem_cons.mpr ⟨mw_15_6, (List.forall_mem_cons.mpr ⟨mw_15_7, (List.forall_mem_cons.mpr ⟨mw_17_12, (List.forall_mem_cons.mpr ⟨mw_17_13, (List.forall_mem_cons.mpr ⟨mw_17_14, (List.forall_mem_cons.mpr ⟨mw_17_15, (List.forall_mem_cons.mpr ⟨mw_35_19, (List.forall_mem_cons.mpr ⟨mw_35_20, (List.forall_mem_cons.mpr ⟨mw_35_21, (fun _ h => absurd h List.not_mem_nil)⟩)⟩)⟩)⟩)⟩)⟩)⟩)⟩)⟩)⟩)⟩)⟩)⟩)⟩)⟩)⟩)⟩)⟩)⟩)⟩)⟩)⟩)⟩)⟩)
theorem memT_wsX6_digest_r4 : ∀ w ∈ wsX6_digest_r4, w ∈ lw_tbl := by
  unfold wsX6_digest_r4
  exact (List.forall_mem_cons.mpr ⟨mw_35_22, (List.forall_mem_cons.mpr ⟨mw_35_1, (List.forall_mem_cons.mpr ⟨mw_35_2, (List.forall_mem_cons.mpr ⟨mw_35_3, (List.forall_mem_cons.mpr ⟨mw_35_4, (List.forall_mem_cons.mpr ⟨mw_4_11, (List.forall_mem_cons.mpr ⟨mw_20_7, (List.forall_mem_cons.mpr ⟨mw_20_8, (List.forall_mem_cons.mpr ⟨mw_20_9, (List.forall_mem_cons.mpr ⟨mw_20_10, (List.forall_mem_cons.mpr ⟨mw_20_15, (List.forall_mem_cons.mpr ⟨mw_20_16, (List.forall_mem_cons.mpr ⟨mw_20_17, (List.forall_mem_cons.mpr ⟨mw_20_18, (List.forall_mem_cons.mpr ⟨mw_12_0, (List.forall_mem_cons.mpr ⟨mw_12_1, (List.forall_mem_cons.mpr ⟨mw_12_2, (List.forall_mem_cons.mpr ⟨mw_13_3, (List.forall_mem_cons.mpr ⟨mw_13_4, (List.forall_mem_cons.mpr ⟨mw_13_5, (List.forall_mem_cons.mpr ⟨mw_13_6, (List.forall_mem_cons.mpr ⟨mw_36_17, (List.forall_mem_cons.mpr ⟨mw_36_18, (List.forall_mem_cons.mpr ⟨mw_36_19, (fun _ h => absurd h List.not_mem_nil)⟩)⟩)⟩)⟩)⟩)⟩)⟩)⟩)⟩)⟩)⟩)⟩)⟩)⟩)⟩)⟩)⟩)⟩)⟩)⟩)⟩)⟩)⟩)⟩)
theorem mw_39_8 : (Cond.constantDouble RX6 205 (4841369599423283200)) ∈ lw_tbl := wsL_in_r39 _ (List.mem_of_getElem? (i := 8) rfl)
theorem mw_39_7 : (Cond.constantLong RX6 203 (4503599627370496)) ∈ lw_tbl := wsL_in_r39 _ (List.mem_of_getElem? (i := 7) rfl)
theorem mw_39_6 : (Cond.constantDouble RX6 201 (4611686018427387904)) ∈ lw_tbl := wsL_in_r39 _ (List.mem_of_getElem? (i := 6) rfl)
theorem mw_39_5 : (Cond.constantLong RX6 199 (1023)) ∈ lw_tbl := wsL_in_r39 _ (List.mem_of_getElem? (i := 5) rfl)
theorem mw_39_4 : (Cond.code yX6_bits cX6_bits 6 (some .long)) ∈ lw_tbl := wsL_in_r39 _ (List.mem_of_getElem? (i := 4) rfl)
theorem mw_39_3 : (Cond.static yX6_bits) ∈ lw_tbl := wsL_in_r39 _ (List.mem_of_getElem? (i := 3) rfl)
theorem mw_39_2 : (Cond.methodLink RX6 217 yX6_bits) ∈ lw_tbl := wsL_in_r39 _ (List.mem_of_getElem? (i := 2) rfl)
theorem memT_wsX6_digest_r5 : ∀ w ∈ wsX6_digest_r5, w ∈ lw_tbl := by
  unfold wsX6_digest_r5
  exact (List.forall_mem_cons.mpr ⟨mw_36_20, (List.forall_mem_cons.mpr ⟨mw_37_8, (List.forall_mem_cons.mpr ⟨mw_37_9, (List.forall_mem_cons.mpr ⟨mw_37_10, (List.forall_mem_cons.mpr ⟨mw_37_11, (List.forall_mem_cons.mpr ⟨mw_39_2, (List.forall_mem_cons.mpr ⟨mw_39_3, (List.forall_mem_cons.mpr ⟨mw_39_4, (List.forall_mem_cons.mpr ⟨mw_39_5, (List.forall_mem_cons.mpr ⟨mw_39_6, (List.forall_mem_cons.mpr ⟨mw_39_7, (List.forall_mem_cons.mpr ⟨mw_39_8, (fun _ h => absurd h List.not_mem_nil)⟩)⟩)⟩)⟩)⟩)⟩)⟩)⟩)⟩)⟩)⟩)⟩)
theorem memT_wsX6_digest : ∀ w ∈ wsX6_digest, w ∈ lw_tbl := by
  unfold wsX6_digest
  exact (List.forall_mem_cons.mpr ⟨mw_38_14, (List.forall_mem_append.mpr ⟨(List.forall_mem_append.mpr ⟨memT_wsX6_digest_r1, (List.forall_mem_append.mpr ⟨memT_wsX6_digest_r2, (List.forall_mem_append.mpr ⟨memT_wsX6_digest_r3, (List.forall_mem_append.mpr ⟨memT_wsX6_digest_r4, memT_wsX6_digest_r5⟩)⟩)⟩)⟩), inX6⟩)⟩)
theorem mw_38_13 : (Cond.selects RX6 yX6_digest yX6_digest) ∈ lw_tbl := wsL_in_r38 _ (List.mem_of_getElem? (i := 13) rfl)
theorem mw_38_12 : (Cond.instanceMethod yX6_digest) ∈ lw_tbl := wsL_in_r38 _ (List.mem_of_getElem? (i := 12) rfl)
theorem mw_38_11 : (Cond.methodLink RL 203 yX6_digest) ∈ lw_tbl := wsL_in_r38 _ (List.mem_of_getElem? (i := 11) rfl)
set_option maxRecDepth 20000 in
theorem gT_X6_digest : GoodIn lw_tbl (wsV RL 203 RX6 yX6_digest wsX6_digest) := goodIn_sub (by
  unfold wsV
  exact List.forall_mem_append.mpr ⟨(List.forall_mem_cons.mpr ⟨mw_38_11, (List.forall_mem_cons.mpr ⟨mw_38_12, (List.forall_mem_cons.mpr ⟨mw_38_13, (List.forall_mem_cons.mpr ⟨mw_1_5, (fun _ h => absurd h List.not_mem_nil)⟩)⟩)⟩)⟩), memT_wsX6_digest⟩) (by decide +kernel)
