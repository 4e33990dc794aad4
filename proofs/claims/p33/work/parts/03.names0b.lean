theorem wsL_app {a b : List Cond} (ha : ∀ w ∈ a, w ∈ lw_tbl) (hb : ∀ w ∈ b, w ∈ lw_tbl) : ∀ w ∈ a ++ b, w ∈ lw_tbl := fun w h => (List.mem_append.mp h).elim (ha w) (hb w)
def wsL_law0_r1_0 : List Cond := [Cond.classLink RL 14 RX5, Cond.instantiable RX5 5, Cond.initialized RX5, Cond.methodLink RL 99 yX5_init, Cond.instanceMethod yX5_init, Cond.code yX5_init cX5_init 1 none, Cond.methodLink RX5 1 objectInit, Cond.instanceMethod objectInit, Cond.code objectInit ⟨#[0xb1]⟩ 1 none, Cond.classLink RX5 7 RX0, Cond.instantiable RX0 12, Cond.initialized RX0, Cond.fieldLink RX5 10 "LaceRanks" "now" "LLaceRanks$Carnival;", Cond.fieldLink RX5 16 "LaceRanks" "snapshot" "LLaceRanks$Carnival;", Cond.classLink RX5 19 RX2, Cond.instantiable RX2 3, Cond.initialized RX2, Cond.fieldLink RX5 22 "LaceRanks" "history" "LLaceRanks$History;", Cond.classLink RX5 26 RX4, Cond.instantiable RX4 2, Cond.initialized RX4, Cond.fieldLink RX5 29 "LaceRanks" "text" "LLaceRanks$Text;", Cond.fieldLink RX5 33 "LaceRanks" "hasSnapshot" "Z", Cond.instanceMethod yX0_init]
set_option maxRecDepth 20000 in
theorem wsL_in_r1_0 : ∀ w ∈ wsL_law0_r1_0, w ∈ lw_tbl := fun w h => (goodIn_p wsL_law0_r1_0 [75, 78] (by decide +kernel) (by decide +kernel) w h).1
theorem wsL_in_r1 : ∀ w ∈ wsL_law0_r1, w ∈ lw_tbl := wsL_in_r1_0
def wsL_law0_r2_0 : List Cond := [Cond.code yX0_init cX0_init 1 none, Cond.methodLink RX0 3 objectInit, Cond.classLink RX0 9 RX1, Cond.instantiable RX1 9, Cond.initialized RX1, Cond.fieldLink RX0 12 "LaceRanks$Carnival" "guests" "LLaceRanks$Guests;", Cond.classLink RX0 18 RX3, Cond.instantiable RX3 2, Cond.initialized RX3, Cond.fieldLink RX0 21 "LaceRanks$Carnival" "lines" "LLaceRanks$Lines;", Cond.arrayClass .int, Cond.fieldLink RX0 25 "LaceRanks$Carnival" "settings" "[I", Cond.fieldLink RX0 29 "LaceRanks$Carnival" "stopPart" "I", Cond.fieldLink RX0 33 "LaceRanks$Carnival" "stopReason" "I", Cond.instanceMethod yX1_init, Cond.code yX1_init cX1_init 1 none, Cond.methodLink RX1 3 objectInit, Cond.fieldLink RX1 9 "LaceRanks$Guests" "rank" "[I", Cond.fieldLink RX1 15 "LaceRanks$Guests" "purse" "[I", Cond.fieldLink RX1 18 "LaceRanks$Guests" "debts" "[I", Cond.fieldLink RX1 21 "LaceRanks$Guests" "lace" "[I", Cond.fieldLink RX1 24 "LaceRanks$Guests" "lender" "[I", Cond.fieldLink RX1 27 "LaceRanks$Guests" "borrower" "[I", Cond.fieldLink RX1 30 "LaceRanks$Guests" "maskNights" "[I"]
set_option maxRecDepth 20000 in
theorem wsL_in_r2_0 : ∀ w ∈ wsL_law0_r2_0, w ∈ lw_tbl := fun w h => (goodIn_p wsL_law0_r2_0 [83, 89] (by decide +kernel) (by decide +kernel) w h).1
theorem wsL_in_r2 : ∀ w ∈ wsL_law0_r2, w ∈ lw_tbl := wsL_in_r2_0
def wsL_law0_r3_0 : List Cond := [Cond.fieldLink RX1 33 "LaceRanks$Guests" "inside" "[I", Cond.instanceMethod yX3_init, Cond.code yX3_init cX3_init 1 none, Cond.methodLink RX3 3 objectInit, Cond.fieldLink RX3 9 "LaceRanks$Lines" "places" "[I", Cond.fieldLink RX3 15 "LaceRanks$Lines" "lengths" "[I", Cond.static yX5_copyRow, Cond.code yX5_copyRow cX5_copyRow 2 none, Cond.methodLink RX5 258 Lib.Math.min.name, Cond.static Lib.Math.min.name, Cond.initialized "java/lang/Math"]
set_option maxRecDepth 20000 in
theorem wsL_in_r3_0 : ∀ w ∈ wsL_law0_r3_0, w ∈ lw_tbl := fun w h => (goodIn_p wsL_law0_r3_0 [137, 152] (by decide +kernel) (by decide +kernel) w h).1
def wsL_law0_r3_1 : List Cond := [Cond.code Lib.Math.min.name Lib.Math.min.code 2 (some .int), Cond.methodLink RX5 263 arraycopyName, Cond.native arraycopyName, Cond.static arraycopyName, Cond.initialized "java/lang/System", Cond.instanceMethod yX2_init, Cond.code yX2_init cX2_init 2 none, Cond.methodLink RX2 3 objectInit, Cond.classLink RX2 9 RX0, Cond.fieldLink RX2 11 "LaceRanks$History" "ring" "[LLaceRanks$Carnival;", Cond.instanceMethod yX4_init]
set_option maxRecDepth 20000 in
theorem wsL_in_r3_1 : ∀ w ∈ wsL_law0_r3_1, w ∈ lw_tbl := fun w h => (goodIn_p wsL_law0_r3_1 [155, 204] (by decide +kernel) (by decide +kernel) w h).1
def wsL_law0_r3_2 : List Cond := [Cond.code yX4_init cX4_init 1 none, Cond.methodLink RX4 3 objectInit]
set_option maxRecDepth 20000 in
theorem wsL_in_r3_2 : ∀ w ∈ wsL_law0_r3_2, w ∈ lw_tbl := fun w h => (goodIn_p wsL_law0_r3_2 [224] (by decide +kernel) (by decide +kernel) w h).1
theorem wsL_in_r3 : ∀ w ∈ wsL_law0_r3, w ∈ lw_tbl := (wsL_app wsL_in_r3_0 (wsL_app wsL_in_r3_1 wsL_in_r3_2))
def wsL_law0_r4_0 : List Cond := [Cond.fieldLink RX4 9 "LaceRanks$Text" "signs" "[I", Cond.methodLink RL 100 yX5_keep, Cond.instanceMethod yX5_keep, Cond.selects RX5 yX5_keep yX5_keep, Cond.code yX5_keep cX5_keep 1 (some .int), Cond.instanceMethod yX0_copyState, Cond.selects RX0 yX0_copyState yX0_copyState, Cond.code yX0_copyState cX0_copyState 2 none, Cond.fieldLink RX0 115 "LaceRanks$Carnival" "nightNumber" "I", Cond.fieldLink RX0 97 "LaceRanks$Carnival" "chest" "I", Cond.fieldLink RX0 149 "LaceRanks$Carnival" "laceChest" "I", Cond.fieldLink RX0 43 "LaceRanks$Carnival" "ribbonsTold" "I", Cond.fieldLink RX0 46 "LaceRanks$Carnival" "laceTold" "I", Cond.fieldLink RX0 155 "LaceRanks$Carnival" "fined" "I", Cond.fieldLink RX0 152 "LaceRanks$Carnival" "ellsCut" "I", Cond.instanceMethod yX1_copyGuests, Cond.selects RX1 yX1_copyGuests yX1_copyGuests]
set_option maxRecDepth 20000 in
theorem wsL_in_r4_0 : ∀ w ∈ wsL_law0_r4_0, w ∈ lw_tbl := fun w h => (goodIn_p wsL_law0_r4_0 [348, 334] (by decide +kernel) (by decide +kernel) w h).1
def wsL_law0_r4_1 : List Cond := [Cond.code yX1_copyGuests cX1_copyGuests 2 none, Cond.fieldLink RX1 36 "LaceRanks$Guests" "size" "I", Cond.instanceMethod yX3_copyLines, Cond.selects RX3 yX3_copyLines yX3_copyLines, Cond.code yX3_copyLines cX3_copyLines 2 none, Cond.methodLink RL 103 yL_holds, Cond.static yL_holds]
set_option maxRecDepth 20000 in
theorem wsL_in_r4_1 : ∀ w ∈ wsL_law0_r4_1, w ∈ lw_tbl := fun w h => (goodIn_p wsL_law0_r4_1 [338, 343] (by decide +kernel) (by decide +kernel) w h).1
theorem wsL_in_r4 : ∀ w ∈ wsL_law0_r4, w ∈ lw_tbl := (wsL_app wsL_in_r4_0 wsL_in_r4_1)
def wsL_law0_r5_0 : List Cond := [Cond.initialized RL]
set_option maxRecDepth 20000 in
theorem wsL_in_r5_0 : ∀ w ∈ wsL_law0_r5_0, w ∈ lw_tbl := fun w h => (goodIn_p wsL_law0_r5_0 [] (by decide +kernel) (by decide +kernel) w h).1
def wsL_law0_r5_1 : List Cond := [Cond.code yL_holds cL_holds 11 (some .boolean)]
set_option maxRecDepth 100000 in
theorem big_holds : (Cond.code yL_holds cL_holds 11 (some .boolean)) ∈ lw_tbl := show _ ∈ k2_sels lw_privs ++ (tables_1_1 ++ (tables_1_2 ++ tables_1_3)) from List.mem_append_right _ (List.mem_append_right _ (List.mem_append_right _ (List.mem_of_getElem? (l := tables_1_3) (i := 156) rfl)))
theorem wsL_in_r5_1 : ∀ w ∈ wsL_law0_r5_1, w ∈ lw_tbl := fun w h => by
  cases List.mem_singleton.mp h
  exact big_holds
def wsL_law0_r5_2 : List Cond := [Cond.methodLink RL 13 yX5_count, Cond.instanceMethod yX5_count, Cond.selects RX5 yX5_count yX5_count, Cond.code yX5_count cX5_count 2 (some .int), Cond.methodLink RX5 37 yX5_isWithin, Cond.static yX5_isWithin, Cond.code yX5_isWithin cX5_isWithin 3 (some .boolean), Cond.methodLink RX5 41 yX5_needArgument, Cond.static yX5_needArgument]
set_option maxRecDepth 20000 in
theorem wsL_in_r5_2 : ∀ w ∈ wsL_law0_r5_2, w ∈ lw_tbl := fun w h => (goodIn_p wsL_law0_r5_2 [353, 356] (by decide +kernel) (by decide +kernel) w h).1
def wsL_law0_r5_3 : List Cond := [Cond.code yX5_needArgument cX5_needArgument 1 none, Cond.classLink RX5 248 "java/lang/IllegalArgumentException", Cond.initialized "java/lang/IllegalArgumentException", Cond.methodLink RX5 200 yX5_numberOf, Cond.instanceMethod yX5_numberOf, Cond.selects RX5 yX5_numberOf yX5_numberOf, Cond.code yX5_numberOf cX5_numberOf 2 (some .int), Cond.instanceMethod yX0_countNumber, Cond.selects RX0 yX0_countNumber yX0_countNumber]
set_option maxRecDepth 20000 in
theorem wsL_in_r5_3 : ∀ w ∈ wsL_law0_r5_3, w ∈ lw_tbl := fun w h => (goodIn_p wsL_law0_r5_3 [359, 379] (by decide +kernel) (by decide +kernel) w h).1
def wsL_law0_r5_4 : List Cond := [Cond.code yX0_countNumber cX0_countNumber 2 (some .int), Cond.static yX5_sumOf, Cond.code yX5_sumOf cX5_sumOf 4 (some .int), Cond.methodLink RX5 93 yX5_at]
set_option maxRecDepth 20000 in
theorem wsL_in_r5_4 : ∀ w ∈ wsL_law0_r5_4, w ∈ lw_tbl := fun w h => (goodIn_p wsL_law0_r5_4 [383, 386] (by decide +kernel) (by decide +kernel) w h).1
theorem wsL_in_r5 : ∀ w ∈ wsL_law0_r5, w ∈ lw_tbl := (wsL_app wsL_in_r5_0 (wsL_app wsL_in_r5_1 (wsL_app wsL_in_r5_2 (wsL_app wsL_in_r5_3 wsL_in_r5_4))))
def wsL_law0_r6_0 : List Cond := [Cond.static yX5_at, Cond.code yX5_at cX5_at 2 (some .int), Cond.instanceMethod yX1_howManyMasked, Cond.selects RX1 yX1_howManyMasked yX1_howManyMasked, Cond.code yX1_howManyMasked cX1_howManyMasked 3 (some .int), Cond.instanceMethod yX1_bitsOfInside, Cond.selects RX1 yX1_bitsOfInside yX1_bitsOfInside]
set_option maxRecDepth 20000 in
theorem wsL_in_r6_0 : ∀ w ∈ wsL_law0_r6_0, w ∈ lw_tbl := fun w h => (goodIn_p wsL_law0_r6_0 [389, 393] (by decide +kernel) (by decide +kernel) w h).1
def wsL_law0_r6_1 : List Cond := [Cond.code yX1_bitsOfInside cX1_bitsOfInside 3 (some .int), Cond.methodLink RX1 60 yX1_isIn, Cond.instanceMethod yX1_isIn, Cond.selects RX1 yX1_isIn yX1_isIn, Cond.code yX1_isIn cX1_isIn 2 (some .boolean), Cond.methodLink RL 19 yX5_guest, Cond.instanceMethod yX5_guest, Cond.selects RX5 yX5_guest yX5_guest]
set_option maxRecDepth 20000 in
theorem wsL_in_r6_1 : ∀ w ∈ wsL_law0_r6_1, w ∈ lw_tbl := fun w h => (goodIn_p wsL_law0_r6_1 [398, 402] (by decide +kernel) (by decide +kernel) w h).1
def wsL_law0_r6_2 : List Cond := [Cond.code yX5_guest cX5_guest 3 (some .int), Cond.methodLink RX5 66 yX5_needGuest, Cond.instanceMethod yX5_needGuest, Cond.selects RX5 yX5_needGuest yX5_needGuest, Cond.code yX5_needGuest cX5_needGuest 2 none, Cond.classLink RX5 239 "java/lang/IndexOutOfBoundsException", Cond.initialized "java/lang/IndexOutOfBoundsException", Cond.instanceMethod yX1_has, Cond.selects RX1 yX1_has yX1_has]
set_option maxRecDepth 20000 in
theorem wsL_in_r6_2 : ∀ w ∈ wsL_law0_r6_2, w ∈ lw_tbl := fun w h => (goodIn_p wsL_law0_r6_2 [420, 424] (by decide +kernel) (by decide +kernel) w h).1
theorem wsL_in_r6 : ∀ w ∈ wsL_law0_r6, w ∈ lw_tbl := (wsL_app wsL_in_r6_0 (wsL_app wsL_in_r6_1 wsL_in_r6_2))
def wsL_law0_r7_0 : List Cond := [Cond.code yX1_has cX1_has 2 (some .boolean), Cond.instanceMethod yX0_guestNumber, Cond.selects RX0 yX0_guestNumber yX0_guestNumber, Cond.code yX0_guestNumber cX0_guestNumber 3 (some .int), Cond.instanceMethod yX1_wornCoat, Cond.selects RX1 yX1_wornCoat yX1_wornCoat]
set_option maxRecDepth 20000 in
theorem wsL_in_r7_0 : ∀ w ∈ wsL_law0_r7_0, w ∈ lw_tbl := fun w h => (goodIn_p wsL_law0_r7_0 [428, 448] (by decide +kernel) (by decide +kernel) w h).1
def wsL_law0_r7_1 : List Cond := [Cond.code yX1_wornCoat cX1_wornCoat 3 (some .int), Cond.instanceMethod yX1_wornLace, Cond.selects RX1 yX1_wornLace yX1_wornLace, Cond.code yX1_wornLace cX1_wornLace 3 (some .int), Cond.methodLink RX1 56 yX1_wornCoat, Cond.instanceMethod yX3_gateOf, Cond.selects RX3 yX3_gateOf yX3_gateOf]
set_option maxRecDepth 20000 in
theorem wsL_in_r7_1 : ∀ w ∈ wsL_law0_r7_1, w ∈ lw_tbl := fun w h => (goodIn_p wsL_law0_r7_1 [452, 456] (by decide +kernel) (by decide +kernel) w h).1
def wsL_law0_r7_2 : List Cond := [Cond.code yX3_gateOf cX3_gateOf 3 (some .int), Cond.methodLink RX3 30 yX3_spotOf, Cond.instanceMethod yX3_spotOf, Cond.selects RX3 yX3_spotOf yX3_spotOf, Cond.code yX3_spotOf cX3_spotOf 5 (some .int), Cond.instanceMethod yX3_placeOf, Cond.selects RX3 yX3_placeOf yX3_placeOf]
set_option maxRecDepth 20000 in
theorem wsL_in_r7_2 : ∀ w ∈ wsL_law0_r7_2, w ∈ lw_tbl := fun w h => (goodIn_p wsL_law0_r7_2 [461, 465] (by decide +kernel) (by decide +kernel) w h).1
def wsL_law0_r7_3 : List Cond := [Cond.code yX3_placeOf cX3_placeOf 3 (some .int), Cond.methodLink RL 76 yX5_law, Cond.instanceMethod yX5_law, Cond.selects RX5 yX5_law yX5_law]
set_option maxRecDepth 20000 in
theorem wsL_in_r7_3 : ∀ w ∈ wsL_law0_r7_3, w ∈ lw_tbl := fun w h => (goodIn_p wsL_law0_r7_3 [470] (by decide +kernel) (by decide +kernel) w h).1
theorem wsL_in_r7 : ∀ w ∈ wsL_law0_r7, w ∈ lw_tbl := (wsL_app wsL_in_r7_0 (wsL_app wsL_in_r7_1 (wsL_app wsL_in_r7_2 wsL_in_r7_3)))
def wsL_law0_r8_0 : List Cond := [Cond.code yX5_law cX5_law 4 (some .int), Cond.methodLink RX5 118 yX5_isGate, Cond.static yX5_isGate, Cond.code yX5_isGate cX5_isGate 1 (some .boolean), Cond.methodLink RX5 121 yX5_needIndex, Cond.static yX5_needIndex]
set_option maxRecDepth 20000 in
theorem wsL_in_r8_0 : ∀ w ∈ wsL_law0_r8_0, w ∈ lw_tbl := fun w h => (goodIn_p wsL_law0_r8_0 [696, 635] (by decide +kernel) (by decide +kernel) w h).1
def wsL_law0_r8_1 : List Cond := [Cond.code yX5_needIndex cX5_needIndex 1 none, Cond.instanceMethod yX0_allowedElls, Cond.selects RX0 yX0_allowedElls yX0_allowedElls, Cond.code yX0_allowedElls cX0_allowedElls 5 (some .int), Cond.methodLink RX0 103 Lib.Math.max.name, Cond.static Lib.Math.max.name]
set_option maxRecDepth 20000 in
theorem wsL_in_r8_1 : ∀ w ∈ wsL_law0_r8_1, w ∈ lw_tbl := fun w h => (goodIn_p wsL_law0_r8_1 [618, 664] (by decide +kernel) (by decide +kernel) w h).1
def wsL_law0_r8_2 : List Cond := [Cond.code Lib.Math.max.name Lib.Math.max.code 2 (some .int), Cond.methodLink RL 67 yX5_line, Cond.instanceMethod yX5_line, Cond.selects RX5 yX5_line yX5_line, Cond.code yX5_line cX5_line 2 (some .int), Cond.methodLink RL 38 yX5_noLoan, Cond.instanceMethod yX5_noLoan, Cond.selects RX5 yX5_noLoan yX5_noLoan]
set_option maxRecDepth 20000 in
theorem wsL_in_r8_2 : ∀ w ∈ wsL_law0_r8_2, w ∈ lw_tbl := fun w h => (goodIn_p wsL_law0_r8_2 [607, 632] (by decide +kernel) (by decide +kernel) w h).1
def wsL_law0_r8_3 : List Cond := [Cond.code yX5_noLoan cX5_noLoan 3 (some .int), Cond.instanceMethod yX1_reasonNoLoan, Cond.selects RX1 yX1_reasonNoLoan yX1_reasonNoLoan, Cond.code yX1_reasonNoLoan cX1_reasonNoLoan 3 (some .int)]
set_option maxRecDepth 20000 in
theorem wsL_in_r8_3 : ∀ w ∈ wsL_law0_r8_3, w ∈ lw_tbl := fun w h => (goodIn_p wsL_law0_r8_3 [536, 540] (by decide +kernel) (by decide +kernel) w h).1
theorem wsL_in_r8 : ∀ w ∈ wsL_law0_r8, w ∈ lw_tbl := (wsL_app wsL_in_r8_0 (wsL_app wsL_in_r8_1 (wsL_app wsL_in_r8_2 wsL_in_r8_3)))
def wsL_law0_r9_0 : List Cond := [Cond.methodLink RL 79 yX5_decentShare, Cond.instanceMethod yX5_decentShare, Cond.selects RX5 yX5_decentShare yX5_decentShare, Cond.code yX5_decentShare cX5_decentShare 1 (some .double), Cond.instanceMethod yX0_shareOfDecent, Cond.selects RX0 yX0_shareOfDecent yX0_shareOfDecent, Cond.code yX0_shareOfDecent cX0_shareOfDecent 3 (some .double), Cond.methodLink RX0 194 yX0_allowsLace, Cond.instanceMethod yX0_allowsLace, Cond.selects RX0 yX0_allowsLace yX0_allowsLace]
set_option maxRecDepth 20000 in
theorem wsL_in_r9_0 : ∀ w ∈ wsL_law0_r9_0, w ∈ lw_tbl := fun w h => (goodIn_p wsL_law0_r9_0 [701, 705] (by decide +kernel) (by decide +kernel) w h).1
def wsL_law0_r9_1 : List Cond := [Cond.code yX0_allowsLace cX0_allowsLace 4 (some .boolean), Cond.methodLink RX0 118 yX0_allowedElls, Cond.methodLink RL 107 yL_cell, Cond.static yL_cell, Cond.code yL_cell cL_cell 2 (some .int), Cond.constant RL 7 (1812433253), Cond.methodLink RL 83 yL_looks, Cond.static yL_looks]
set_option maxRecDepth 20000 in
theorem wsL_in_r9_1 : ∀ w ∈ wsL_law0_r9_1, w ∈ lw_tbl := fun w h => (goodIn_p wsL_law0_r9_1 [709, 406] (by decide +kernel) (by decide +kernel) w h).1
def wsL_law0_r9_2 : List Cond := [Cond.code yL_looks cL_looks 4 (some .long), Cond.constantLong RL 9 (149), Cond.constantLong RL 11 (31), Cond.methodLink RL 111 yL_act, Cond.static yL_act]
set_option maxRecDepth 20000 in
theorem wsL_in_r9_2 : ∀ w ∈ wsL_law0_r9_2, w ∈ lw_tbl := fun w h => (goodIn_p wsL_law0_r9_2 [414] (by decide +kernel) (by decide +kernel) w h).1
def wsL_law0_r9_3 : List Cond := [Cond.code yL_act cL_act 13 (some .int)]
set_option maxRecDepth 100000 in
theorem big_act : (Cond.code yL_act cL_act 13 (some .int)) ∈ lw_tbl := show _ ∈ k2_sels lw_privs ++ (tables_1_1 ++ (tables_1_2 ++ tables_1_3)) from List.mem_append_right _ (List.mem_append_right _ (List.mem_append_left _ (List.mem_of_getElem? (l := tables_1_2) (i := 177) rfl)))
theorem wsL_in_r9_3 : ∀ w ∈ wsL_law0_r9_3, w ∈ lw_tbl := fun w h => by
  cases List.mem_singleton.mp h
  exact big_act
theorem wsL_in_r9 : ∀ w ∈ wsL_law0_r9, w ∈ lw_tbl := (wsL_app wsL_in_r9_0 (wsL_app wsL_in_r9_1 (wsL_app wsL_in_r9_2 wsL_in_r9_3)))
def wsL_law0_r10_0 : List Cond := [Cond.methodLink RL 23 yL_up, Cond.static yL_up, Cond.code yL_up cL_up 2 (some .int), Cond.constant RL 8 (2147483647), Cond.methodLink RL 28 yX5_come, Cond.instanceMethod yX5_come, Cond.selects RX5 yX5_come yX5_come, Cond.code yX5_come cX5_come 4 (some .int), Cond.methodLink RX5 55 yX5_needState, Cond.static yX5_needState]
set_option maxRecDepth 20000 in
theorem wsL_in_r10_0 : ∀ w ∈ wsL_law0_r10_0, w ∈ lw_tbl := fun w h => (goodIn_p wsL_law0_r10_0 [410, 477] (by decide +kernel) (by decide +kernel) w h).1
def wsL_law0_r10_1 : List Cond := [Cond.code yX5_needState cX5_needState 1 none, Cond.classLink RX5 253 "java/lang/IllegalStateException", Cond.initialized "java/lang/IllegalStateException", Cond.instanceMethod yX2_save, Cond.selects RX2 yX2_save yX2_save, Cond.code yX2_save cX2_save 3 none, Cond.fieldLink RX2 18 "LaceRanks$History" "size" "I", Cond.fieldLink RX2 22 "LaceRanks$History" "oldest" "I", Cond.methodLink RX2 25 yX2_stateAt, Cond.instanceMethod yX2_stateAt, Cond.selects RX2 yX2_stateAt yX2_stateAt]
set_option maxRecDepth 20000 in
theorem wsL_in_r10_1 : ∀ w ∈ wsL_law0_r10_1, w ∈ lw_tbl := fun w h => (goodIn_p wsL_law0_r10_1 [254, 481] (by decide +kernel) (by decide +kernel) w h).1
def wsL_law0_r10_2 : List Cond := [Cond.code yX2_stateAt cX2_stateAt 3 (some (.object "LaceRanks$Carnival")), Cond.instanceMethod yX0_welcome, Cond.selects RX0 yX0_welcome yX0_welcome]
set_option maxRecDepth 20000 in
theorem wsL_in_r10_2 : ∀ w ∈ wsL_law0_r10_2, w ∈ lw_tbl := fun w h => (goodIn_p wsL_law0_r10_2 [330] (by decide +kernel) (by decide +kernel) w h).1
theorem wsL_in_r10 : ∀ w ∈ wsL_law0_r10, w ∈ lw_tbl := (wsL_app wsL_in_r10_0 (wsL_app wsL_in_r10_1 wsL_in_r10_2))
def wsL_law0_r11_0 : List Cond := [Cond.code yX0_welcome cX0_welcome 4 (some .int), Cond.instanceMethod yX1_takeIn, Cond.selects RX1 yX1_takeIn yX1_takeIn, Cond.code yX1_takeIn cX1_takeIn 5 (some .int), Cond.static yX5_put]
set_option maxRecDepth 20000 in
theorem wsL_in_r11_0 : ∀ w ∈ wsL_law0_r11_0, w ∈ lw_tbl := fun w h => (goodIn_p wsL_law0_r11_0 [485, 489] (by decide +kernel) (by decide +kernel) w h).1
def wsL_law0_r11_1 : List Cond := [Cond.code yX5_put cX5_put 3 none, Cond.methodLink RL 32 yX5_leave, Cond.instanceMethod yX5_leave, Cond.selects RX5 yX5_leave yX5_leave, Cond.code yX5_leave cX5_leave 2 (some .int), Cond.instanceMethod yX0_canGo, Cond.selects RX0 yX0_canGo yX0_canGo]
set_option maxRecDepth 20000 in
theorem wsL_in_r11_1 : ∀ w ∈ wsL_law0_r11_1, w ∈ lw_tbl := fun w h => (goodIn_p wsL_law0_r11_1 [492, 496] (by decide +kernel) (by decide +kernel) w h).1
def wsL_law0_r11_2 : List Cond := [Cond.code yX0_canGo cX0_canGo 2 (some .boolean), Cond.instanceMethod yX0_letGo, Cond.selects RX0 yX0_letGo yX0_letGo, Cond.code yX0_letGo cX0_letGo 3 (some .int), Cond.instanceMethod yX1_takeOut, Cond.selects RX1 yX1_takeOut yX1_takeOut]
set_option maxRecDepth 20000 in
theorem wsL_in_r11_2 : ∀ w ∈ wsL_law0_r11_2, w ∈ lw_tbl := fun w h => (goodIn_p wsL_law0_r11_2 [500, 505] (by decide +kernel) (by decide +kernel) w h).1
def wsL_law0_r11_3 : List Cond := [Cond.code yX1_takeOut cX1_takeOut 3 none, Cond.methodLink RX1 44 yX1_closeGap, Cond.instanceMethod yX1_closeGap, Cond.selects RX1 yX1_closeGap yX1_closeGap, Cond.code yX1_closeGap cX1_closeGap 4 none, Cond.methodLink RX1 52 yX1_numberWithout]
set_option maxRecDepth 20000 in
theorem wsL_in_r11_3 : ∀ w ∈ wsL_law0_r11_3, w ∈ lw_tbl := fun w h => (goodIn_p wsL_law0_r11_3 [509, 513] (by decide +kernel) (by decide +kernel) w h).1
theorem wsL_in_r11 : ∀ w ∈ wsL_law0_r11, w ∈ lw_tbl := (wsL_app wsL_in_r11_0 (wsL_app wsL_in_r11_1 (wsL_app wsL_in_r11_2 wsL_in_r11_3)))
def wsL_law0_r12_0 : List Cond := [Cond.static yX1_numberWithout, Cond.code yX1_numberWithout cX1_numberWithout 2 (some .int), Cond.instanceMethod yX3_renumberWithout, Cond.selects RX3 yX3_renumberWithout yX3_renumberWithout, Cond.code yX3_renumberWithout cX3_renumberWithout 3 none, Cond.methodLink RL 35 yX5_earn, Cond.instanceMethod yX5_earn, Cond.selects RX5 yX5_earn yX5_earn]
set_option maxRecDepth 20000 in
theorem wsL_in_r12_0 : ∀ w ∈ wsL_law0_r12_0, w ∈ lw_tbl := fun w h => (goodIn_p wsL_law0_r12_0 [516, 520] (by decide +kernel) (by decide +kernel) w h).1
def wsL_law0_r12_1 : List Cond := [Cond.code yX5_earn cX5_earn 3 (some .int), Cond.instanceMethod yX0_giveWages, Cond.selects RX0 yX0_giveWages yX0_giveWages, Cond.code yX0_giveWages cX0_giveWages 5 (some .int), Cond.methodLink RX0 84 Lib.Math.min.name, Cond.methodLink RL 41 yX5_lend, Cond.instanceMethod yX5_lend, Cond.selects RX5 yX5_lend yX5_lend]
set_option maxRecDepth 20000 in
theorem wsL_in_r12_1 : ∀ w ∈ wsL_law0_r12_1, w ∈ lw_tbl := fun w h => (goodIn_p wsL_law0_r12_1 [526, 530] (by decide +kernel) (by decide +kernel) w h).1
def wsL_law0_r12_2 : List Cond := [Cond.code yX5_lend cX5_lend 3 (some .int), Cond.instanceMethod yX1_lendCoat, Cond.selects RX1 yX1_lendCoat yX1_lendCoat, Cond.code yX1_lendCoat cX1_lendCoat 3 none, Cond.methodLink RL 44 yX5_pay, Cond.instanceMethod yX5_pay, Cond.selects RX5 yX5_pay yX5_pay]
set_option maxRecDepth 20000 in
theorem wsL_in_r12_2 : ∀ w ∈ wsL_law0_r12_2, w ∈ lw_tbl := fun w h => (goodIn_p wsL_law0_r12_2 [544, 548] (by decide +kernel) (by decide +kernel) w h).1
def wsL_law0_r12_3 : List Cond := [Cond.code yX5_pay cX5_pay 2 (some .int)]
set_option maxRecDepth 20000 in
theorem wsL_in_r12_3 : ∀ w ∈ wsL_law0_r12_3, w ∈ lw_tbl := fun w h => (goodIn_p wsL_law0_r12_3 [552] (by decide +kernel) (by decide +kernel) w h).1
theorem wsL_in_r12 : ∀ w ∈ wsL_law0_r12, w ∈ lw_tbl := (wsL_app wsL_in_r12_0 (wsL_app wsL_in_r12_1 (wsL_app wsL_in_r12_2 wsL_in_r12_3)))
def wsL_law0_r13_0 : List Cond := [Cond.instanceMethod yX0_payDebts, Cond.selects RX0 yX0_payDebts yX0_payDebts, Cond.code yX0_payDebts cX0_payDebts 4 none, Cond.instanceMethod yX1_payFromPurse, Cond.selects RX1 yX1_payFromPurse yX1_payFromPurse, Cond.code yX1_payFromPurse cX1_payFromPurse 3 (some .int), Cond.methodLink RL 47 yX5_giveBack, Cond.instanceMethod yX5_giveBack, Cond.selects RX5 yX5_giveBack yX5_giveBack]
set_option maxRecDepth 20000 in
theorem wsL_in_r13_0 : ∀ w ∈ wsL_law0_r13_0, w ∈ lw_tbl := fun w h => (goodIn_p wsL_law0_r13_0 [556, 560] (by decide +kernel) (by decide +kernel) w h).1
def wsL_law0_r13_1 : List Cond := [Cond.code yX5_giveBack cX5_giveBack 2 (some .int), Cond.instanceMethod yX1_canReturnCoat, Cond.selects RX1 yX1_canReturnCoat yX1_canReturnCoat, Cond.code yX1_canReturnCoat cX1_canReturnCoat 3 (some .boolean), Cond.instanceMethod yX1_returnCoat, Cond.selects RX1 yX1_returnCoat yX1_returnCoat]
set_option maxRecDepth 20000 in
theorem wsL_in_r13_1 : ∀ w ∈ wsL_law0_r13_1, w ∈ lw_tbl := fun w h => (goodIn_p wsL_law0_r13_1 [564, 568] (by decide +kernel) (by decide +kernel) w h).1
def wsL_law0_r13_2 : List Cond := [Cond.code yX1_returnCoat cX1_returnCoat 3 (some .int), Cond.methodLink RL 50 yX5_whyNot, Cond.instanceMethod yX5_whyNot, Cond.selects RX5 yX5_whyNot yX5_whyNot, Cond.code yX5_whyNot cX5_whyNot 3 (some .int), Cond.instanceMethod yX0_reasonNoMask, Cond.selects RX0 yX0_reasonNoMask yX0_reasonNoMask]
set_option maxRecDepth 20000 in
theorem wsL_in_r13_2 : ∀ w ∈ wsL_law0_r13_2, w ∈ lw_tbl := fun w h => (goodIn_p wsL_law0_r13_2 [572, 576] (by decide +kernel) (by decide +kernel) w h).1
def wsL_law0_r13_3 : List Cond := [Cond.code yX0_reasonNoMask cX0_reasonNoMask 2 (some .int), Cond.instanceMethod yX0_reasonNoLine]
set_option maxRecDepth 20000 in
theorem wsL_in_r13_3 : ∀ w ∈ wsL_law0_r13_3, w ∈ lw_tbl := fun w h => (goodIn_p wsL_law0_r13_3 [580] (by decide +kernel) (by decide +kernel) w h).1
theorem wsL_in_r13 : ∀ w ∈ wsL_law0_r13, w ∈ lw_tbl := (wsL_app wsL_in_r13_0 (wsL_app wsL_in_r13_1 (wsL_app wsL_in_r13_2 wsL_in_r13_3)))
def wsL_law0_r14_0 : List Cond := [Cond.selects RX0 yX0_reasonNoLine yX0_reasonNoLine, Cond.code yX0_reasonNoLine cX0_reasonNoLine 2 (some .int), Cond.methodLink RL 54 yX5_mask, Cond.instanceMethod yX5_mask, Cond.selects RX5 yX5_mask yX5_mask, Cond.code yX5_mask cX5_mask 2 (some .int), Cond.instanceMethod yX0_takeMask, Cond.selects RX0 yX0_takeMask yX0_takeMask]
set_option maxRecDepth 20000 in
theorem wsL_in_r14_0 : ∀ w ∈ wsL_law0_r14_0, w ∈ lw_tbl := fun w h => (goodIn_p wsL_law0_r14_0 [584, 588] (by decide +kernel) (by decide +kernel) w h).1
def wsL_law0_r14_1 : List Cond := [Cond.code yX0_takeMask cX0_takeMask 2 none, Cond.methodLink RL 57 yX5_night, Cond.instanceMethod yX5_night, Cond.selects RX5 yX5_night yX5_night, Cond.code yX5_night cX5_night 1 (some .int), Cond.instanceMethod yX0_endNight, Cond.selects RX0 yX0_endNight yX0_endNight]
set_option maxRecDepth 20000 in
theorem wsL_in_r14_1 : ∀ w ∈ wsL_law0_r14_1, w ∈ lw_tbl := fun w h => (goodIn_p wsL_law0_r14_1 [592, 596] (by decide +kernel) (by decide +kernel) w h).1
def wsL_law0_r14_2 : List Cond := [Cond.code yX0_endNight cX0_endNight 2 (some .int), Cond.instanceMethod yX1_passNight, Cond.selects RX1 yX1_passNight yX1_passNight, Cond.code yX1_passNight cX1_passNight 2 none, Cond.methodLink RX1 64 Lib.Math.max.name, Cond.instanceMethod yX3_sendAllAway, Cond.selects RX3 yX3_sendAllAway yX3_sendAllAway]
set_option maxRecDepth 20000 in
theorem wsL_in_r14_2 : ∀ w ∈ wsL_law0_r14_2, w ∈ lw_tbl := fun w h => (goodIn_p wsL_law0_r14_2 [600, 604] (by decide +kernel) (by decide +kernel) w h).1
def wsL_law0_r14_3 : List Cond := [Cond.code yX3_sendAllAway cX3_sendAllAway 2 none, Cond.methodLink RL 61 yX5_set]
set_option maxRecDepth 20000 in
theorem wsL_in_r14_3 : ∀ w ∈ wsL_law0_r14_3, w ∈ lw_tbl := fun w h => (goodIn_p wsL_law0_r14_3 [611] (by decide +kernel) (by decide +kernel) w h).1
theorem wsL_in_r14 : ∀ w ∈ wsL_law0_r14, w ∈ lw_tbl := (wsL_app wsL_in_r14_0 (wsL_app wsL_in_r14_1 (wsL_app wsL_in_r14_2 wsL_in_r14_3)))
def wsL_law0_r15_0 : List Cond := [Cond.instanceMethod yX5_set, Cond.selects RX5 yX5_set yX5_set, Cond.code yX5_set cX5_set 4 (some .int), Cond.fieldLink RX5 146 "LaceRanks" "SETTING_LEAST" "[I", Cond.fieldLink RX5 149 "LaceRanks" "SETTING_MOST" "[I", Cond.methodLink RX5 155 yX5_put, Cond.methodLink RL 64 yX5_restore, Cond.instanceMethod yX5_restore, Cond.selects RX5 yX5_restore yX5_restore, Cond.code yX5_restore cX5_restore 1 (some .int), Cond.methodLink RL 70 yX5_open, Cond.instanceMethod yX5_open, Cond.selects RX5 yX5_open yX5_open]
set_option maxRecDepth 20000 in
theorem wsL_in_r15_0 : ∀ w ∈ wsL_law0_r15_0, w ∈ lw_tbl := fun w h => (goodIn_p wsL_law0_r15_0 [615, 628] (by decide +kernel) (by decide +kernel) w h).1
def wsL_law0_r15_1 : List Cond := [Cond.code yX5_open cX5_open 2 (some .int), Cond.instanceMethod yX0_openOnce, Cond.selects RX0 yX0_openOnce yX0_openOnce, Cond.code yX0_openOnce cX0_openOnce 7 (some .int), Cond.instanceMethod yX3_takeFirst, Cond.selects RX3 yX3_takeFirst yX3_takeFirst]
set_option maxRecDepth 20000 in
theorem wsL_in_r15_1 : ∀ w ∈ wsL_law0_r15_1, w ∈ lw_tbl := fun w h => (goodIn_p wsL_law0_r15_1 [639, 643] (by decide +kernel) (by decide +kernel) w h).1
def wsL_law0_r15_2 : List Cond := [Cond.code yX3_takeFirst cX3_takeFirst 5 (some .int), Cond.methodLink RX3 26 yX3_standingAt, Cond.instanceMethod yX3_standingAt, Cond.selects RX3 yX3_standingAt yX3_standingAt, Cond.code yX3_standingAt cX3_standingAt 3 (some .int)]
set_option maxRecDepth 20000 in
theorem wsL_in_r15_2 : ∀ w ∈ wsL_law0_r15_2, w ∈ lw_tbl := fun w h => (goodIn_p wsL_law0_r15_2 [647, 651] (by decide +kernel) (by decide +kernel) w h).1
theorem wsL_in_r15 : ∀ w ∈ wsL_law0_r15, w ∈ lw_tbl := (wsL_app wsL_in_r15_0 (wsL_app wsL_in_r15_1 wsL_in_r15_2))
def wsL_law0_r16_0 : List Cond := [Cond.methodLink RX0 124 yX0_ellsTooMuch, Cond.instanceMethod yX0_ellsTooMuch, Cond.selects RX0 yX0_ellsTooMuch yX0_ellsTooMuch, Cond.code yX0_ellsTooMuch cX0_ellsTooMuch 3 (some .int), Cond.methodLink RX0 106 yX0_passesMasked, Cond.instanceMethod yX0_passesMasked, Cond.selects RX0 yX0_passesMasked yX0_passesMasked, Cond.code yX0_passesMasked cX0_passesMasked 2 (some .boolean), Cond.methodLink RX0 127 yX0_leftOfFine, Cond.instanceMethod yX0_leftOfFine, Cond.selects RX0 yX0_leftOfFine yX0_leftOfFine]
set_option maxRecDepth 20000 in
theorem wsL_in_r16_0 : ∀ w ∈ wsL_law0_r16_0, w ∈ lw_tbl := fun w h => (goodIn_p wsL_law0_r16_0 [656, 660] (by decide +kernel) (by decide +kernel) w h).1
def wsL_law0_r16_1 : List Cond := [Cond.code yX0_leftOfFine cX0_leftOfFine 3 (some .int), Cond.methodLink RX0 133 yX0_paidByLender, Cond.instanceMethod yX0_paidByLender, Cond.selects RX0 yX0_paidByLender yX0_paidByLender, Cond.code yX0_paidByLender cX0_paidByLender 4 (some .int), Cond.methodLink RX0 130 yX0_paidByGuest, Cond.instanceMethod yX0_paidByGuest, Cond.selects RX0 yX0_paidByGuest yX0_paidByGuest]
set_option maxRecDepth 20000 in
theorem wsL_in_r16_1 : ∀ w ∈ wsL_law0_r16_1, w ∈ lw_tbl := fun w h => (goodIn_p wsL_law0_r16_1 [669, 673] (by decide +kernel) (by decide +kernel) w h).1
def wsL_law0_r16_2 : List Cond := [Cond.code yX0_paidByGuest cX0_paidByGuest 3 (some .int), Cond.methodLink RX0 142 yX0_cutLace, Cond.instanceMethod yX0_cutLace, Cond.selects RX0 yX0_cutLace yX0_cutLace, Cond.code yX0_cutLace cX0_cutLace 3 none]
set_option maxRecDepth 20000 in
theorem wsL_in_r16_2 : ∀ w ∈ wsL_law0_r16_2, w ∈ lw_tbl := fun w h => (goodIn_p wsL_law0_r16_2 [677, 681] (by decide +kernel) (by decide +kernel) w h).1
theorem wsL_in_r16 : ∀ w ∈ wsL_law0_r16, w ∈ lw_tbl := (wsL_app wsL_in_r16_0 (wsL_app wsL_in_r16_1 wsL_in_r16_2))
def wsL_law0_r17_0 : List Cond := [Cond.methodLink RL 73 yX5_queue, Cond.instanceMethod yX5_queue, Cond.selects RX5 yX5_queue yX5_queue, Cond.code yX5_queue cX5_queue 3 (some .int), Cond.instanceMethod yX3_enter, Cond.selects RX3 yX3_enter yX3_enter, Cond.code yX3_enter cX3_enter 4 (some .int), Cond.methodLink RL 96 yX5_undo, Cond.instanceMethod yX5_undo, Cond.selects RX5 yX5_undo yX5_undo]
set_option maxRecDepth 20000 in
theorem wsL_in_r17_0 : ∀ w ∈ wsL_law0_r17_0, w ∈ lw_tbl := fun w h => (goodIn_p wsL_law0_r17_0 [685, 689] (by decide +kernel) (by decide +kernel) w h).1
def wsL_law0_r17_1 : List Cond := [Cond.code yX5_undo cX5_undo 1 (some .int), Cond.instanceMethod yX2_bringBack, Cond.selects RX2 yX2_bringBack yX2_bringBack, Cond.code yX2_bringBack cX2_bringBack 3 none, Cond.methodLink RL 115 yL_isAhead, Cond.static yL_isAhead]
set_option maxRecDepth 20000 in
theorem wsL_in_r17_1 : ∀ w ∈ wsL_law0_r17_1, w ∈ lw_tbl := fun w h => (goodIn_p wsL_law0_r17_1 [251, 326] (by decide +kernel) (by decide +kernel) w h).1
def wsL_law0_r17_2 : List Cond := [Cond.code yL_isAhead cL_isAhead 14 (some .boolean)]
set_option maxRecDepth 100000 in
theorem big_isAhead : (Cond.code yL_isAhead cL_isAhead 14 (some .boolean)) ∈ lw_tbl := show _ ∈ k2_sels lw_privs ++ (tables_1_1 ++ (tables_1_2 ++ tables_1_3)) from List.mem_append_right _ (List.mem_append_right _ (List.mem_append_right _ (List.mem_of_getElem? (l := tables_1_3) (i := 176) rfl)))
theorem wsL_in_r17_2 : ∀ w ∈ wsL_law0_r17_2, w ∈ lw_tbl := fun w h => by
  cases List.mem_singleton.mp h
  exact big_isAhead
def wsL_law0_r17_3 : List Cond := [Cond.methodLink RL 87 yX5_bestGate, Cond.instanceMethod yX5_bestGate, Cond.selects RX5 yX5_bestGate yX5_bestGate, Cond.code yX5_bestGate cX5_bestGate 2 (some .int), Cond.instanceMethod yX0_gateOfFewestElls, Cond.selects RX0 yX0_gateOfFewestElls yX0_gateOfFewestElls, Cond.code yX0_gateOfFewestElls cX0_gateOfFewestElls 6 (some .int)]
set_option maxRecDepth 20000 in
theorem wsL_in_r17_3 : ∀ w ∈ wsL_law0_r17_3, w ∈ lw_tbl := fun w h => (goodIn_p wsL_law0_r17_3 [716, 720] (by decide +kernel) (by decide +kernel) w h).1
theorem wsL_in_r17 : ∀ w ∈ wsL_law0_r17, w ∈ lw_tbl := (wsL_app wsL_in_r17_0 (wsL_app wsL_in_r17_1 (wsL_app wsL_in_r17_2 wsL_in_r17_3)))
def wsL_law0_r18_0 : List Cond := [Cond.methodLink RL 90 yX5_ifOpened, Cond.instanceMethod yX5_ifOpened, Cond.selects RX5 yX5_ifOpened yX5_ifOpened, Cond.code yX5_ifOpened cX5_ifOpened 4 (some .int), Cond.instanceMethod yX0_gateNumber, Cond.selects RX0 yX0_gateNumber yX0_gateNumber, Cond.code yX0_gateNumber cX0_gateNumber 7 (some .int), Cond.methodLink RL 93 yX5_freeIn, Cond.instanceMethod yX5_freeIn, Cond.selects RX5 yX5_freeIn yX5_freeIn]
set_option maxRecDepth 20000 in
theorem wsL_in_r18_0 : ∀ w ∈ wsL_law0_r18_0, w ∈ lw_tbl := fun w h => (goodIn_p wsL_law0_r18_0 [724, 728] (by decide +kernel) (by decide +kernel) w h).1
def wsL_law0_r18_1 : List Cond := [Cond.code yX5_freeIn cX5_freeIn 3 (some .int), Cond.instanceMethod yX0_nightsUntilAllowed, Cond.selects RX0 yX0_nightsUntilAllowed yX0_nightsUntilAllowed, Cond.code yX0_nightsUntilAllowed cX0_nightsUntilAllowed 4 (some .int)]
set_option maxRecDepth 20000 in
theorem wsL_in_r18_1 : ∀ w ∈ wsL_law0_r18_1, w ∈ lw_tbl := fun w h => (goodIn_p wsL_law0_r18_1 [732, 736] (by decide +kernel) (by decide +kernel) w h).1
theorem wsL_in_r18 : ∀ w ∈ wsL_law0_r18, w ∈ lw_tbl := (wsL_app wsL_in_r18_0 wsL_in_r18_1)
theorem inY5 : ∀ w ∈ wsX50, w ∈ lw_tbl := by decide +kernel
theorem inY0 : ∀ w ∈ wsX00, w ∈ lw_tbl := by decide +kernel
theorem inY2 : ∀ w ∈ wsX20, w ∈ lw_tbl := by decide +kernel
theorem inY4 : ∀ w ∈ wsX40, w ∈ lw_tbl := by decide +kernel
theorem inY1 : ∀ w ∈ wsX10, w ∈ lw_tbl := by decide +kernel
theorem inY3 : ∀ w ∈ wsX30, w ∈ lw_tbl := by decide +kernel
theorem wsL_law_in0 : ∀ w ∈ wsL_law0, w ∈ lw_tbl := (wsL_app (wsL_app (wsL_app (wsL_app (wsL_app (wsL_app (wsL_app (wsL_app wsL_in_r1 (wsL_app wsL_in_r2 (wsL_app wsL_in_r3 (wsL_app wsL_in_r4 (wsL_app wsL_in_r5 (wsL_app wsL_in_r6 (wsL_app wsL_in_r7 (wsL_app wsL_in_r8 (wsL_app wsL_in_r9 (wsL_app wsL_in_r10 (wsL_app wsL_in_r11 (wsL_app wsL_in_r12 (wsL_app wsL_in_r13 (wsL_app wsL_in_r14 (wsL_app wsL_in_r15 (wsL_app wsL_in_r16 (wsL_app wsL_in_r17 wsL_in_r18))))))))))))))))) inY5) inY0) inY2) inY4) inY1) inY3) (fun w h => absurd h List.not_mem_nil))
