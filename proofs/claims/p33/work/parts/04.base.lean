/-! ===== words of nest mates ===== -/
def nwF : List (String × Nat × String × String × String × String) := [("LaceRanks", 45, "LaceRanks$Carnival", "guests", "LLaceRanks$Guests;", "LaceRanks"), ("LaceRanks", 49, "LaceRanks$Guests", "size", "I", "LaceRanks"), ("LaceRanks", 89, "LaceRanks$Guests", "lace", "[I", "LaceRanks"), ("LaceRanks", 109, "LaceRanks$Guests", "purse", "[I", "LaceRanks"), ("LaceRanks", 115, "LaceRanks$Guests", "debts", "[I", "LaceRanks"), ("LaceRanks", 127, "LaceRanks$Carnival", "lines", "LLaceRanks$Lines;", "LaceRanks"), ("LaceRanks", 136, "LaceRanks$Lines", "lengths", "[I", "LaceRanks"), ("LaceRanks", 152, "LaceRanks$Carnival", "settings", "[I", "LaceRanks"), ("LaceRanks", 184, "LaceRanks$History", "size", "I", "LaceRanks"), ("LaceRanks", 191, "LaceRanks$Carnival", "nightNumber", "I", "LaceRanks"), ("LaceRanks$Carnival", 36, "LaceRanks", "SETTING_FIRST", "[I", "LaceRanks"), ("LaceRanks$Carnival", 64, "LaceRanks$Guests", "debts", "[I", "LaceRanks"), ("LaceRanks$Carnival", 71, "LaceRanks$Guests", "purse", "[I", "LaceRanks"), ("LaceRanks$Carnival", 74, "LaceRanks$Guests", "lace", "[I", "LaceRanks"), ("LaceRanks$Carnival", 94, "LaceRanks$Guests", "maskNights", "[I", "LaceRanks"), ("LaceRanks$Carnival", 112, "LaceRanks$Guests", "rank", "[I", "LaceRanks"), ("LaceRanks$Carnival", 121, "LaceRanks$Guests", "lender", "[I", "LaceRanks"), ("LaceRanks$Carnival", 146, "LaceRanks$Guests", "inside", "[I", "LaceRanks"), ("LaceRanks$Carnival", 158, "LaceRanks$Guests", "size", "I", "LaceRanks"), ("LaceRanks$Carnival", 191, "LaceRanks$Lines", "lengths", "[I", "LaceRanks"), ("LaceRanks$Carnival", 201, "LaceRanks$Guests", "borrower", "[I", "LaceRanks")]
def nwM : List (String × Nat × MethodName × String) := [("LaceRanks", 9, ⟨"LaceRanks$Carnival", "<init>", "()V"⟩, "LaceRanks"), ("LaceRanks", 21, ⟨"LaceRanks$History", "<init>", "()V"⟩, "LaceRanks"), ("LaceRanks", 28, ⟨"LaceRanks$Text", "<init>", "()V"⟩, "LaceRanks"), ("LaceRanks", 58, ⟨"LaceRanks$History", "save", "(LLaceRanks$Carnival;)V"⟩, "LaceRanks"), ("LaceRanks", 62, ⟨"LaceRanks$Carnival", "welcome", "(III)I"⟩, "LaceRanks"), ("LaceRanks", 70, ⟨"LaceRanks$Carnival", "canGo", "(I)Z"⟩, "LaceRanks"), ("LaceRanks", 74, ⟨"LaceRanks$Carnival", "letGo", "(I)I"⟩, "LaceRanks"), ("LaceRanks", 78, ⟨"LaceRanks$Carnival", "giveWages", "(II)I"⟩, "LaceRanks"), ("LaceRanks", 82, ⟨"LaceRanks$Guests", "reasonNoLoan", "(II)I"⟩, "LaceRanks"), ("LaceRanks", 85, ⟨"LaceRanks$Guests", "lendCoat", "(II)V"⟩, "LaceRanks"), ("LaceRanks", 97, ⟨"LaceRanks$Guests", "canReturnCoat", "(I)Z"⟩, "LaceRanks"), ("LaceRanks", 100, ⟨"LaceRanks$Guests", "returnCoat", "(I)I"⟩, "LaceRanks"), ("LaceRanks", 103, ⟨"LaceRanks$Carnival", "reasonNoMask", "(I)I"⟩, "LaceRanks"), ("LaceRanks", 106, ⟨"LaceRanks$Carnival", "takeMask", "(I)V"⟩, "LaceRanks"), ("LaceRanks", 112, ⟨"LaceRanks$Carnival", "payDebts", "(I)V"⟩, "LaceRanks"), ("LaceRanks", 124, ⟨"LaceRanks$Carnival", "reasonNoLine", "(I)I"⟩, "LaceRanks"), ("LaceRanks", 131, ⟨"LaceRanks$Lines", "enter", "(II)I"⟩, "LaceRanks"), ("LaceRanks", 139, ⟨"LaceRanks$Carnival", "openOnce", "(I)I"⟩, "LaceRanks"), ("LaceRanks", 142, ⟨"LaceRanks$Carnival", "endNight", "()I"⟩, "LaceRanks"), ("LaceRanks", 185, ⟨"LaceRanks$History", "bringBack", "(LLaceRanks$Carnival;)V"⟩, "LaceRanks"), ("LaceRanks", 188, ⟨"LaceRanks$Carnival", "copyState", "(LLaceRanks$Carnival;)V"⟩, "LaceRanks"), ("LaceRanks", 194, ⟨"LaceRanks$Carnival", "guestNumber", "(II)I"⟩, "LaceRanks"), ("LaceRanks", 197, ⟨"LaceRanks$Carnival", "allowedElls", "(III)I"⟩, "LaceRanks"), ("LaceRanks", 203, ⟨"LaceRanks$Carnival", "gateNumber", "(III)I"⟩, "LaceRanks"), ("LaceRanks", 206, ⟨"LaceRanks$Carnival", "gateOfFewestElls", "(I)I"⟩, "LaceRanks"), ("LaceRanks", 209, ⟨"LaceRanks$Carnival", "nightsUntilAllowed", "(II)I"⟩, "LaceRanks"), ("LaceRanks", 212, ⟨"LaceRanks$Carnival", "shareOfDecent", "()D"⟩, "LaceRanks"), ("LaceRanks", 236, ⟨"LaceRanks$Guests", "has", "(I)Z"⟩, "LaceRanks"), ("LaceRanks", 269, ⟨"LaceRanks$Carnival", "countNumber", "(I)I"⟩, "LaceRanks"), ("LaceRanks$Carnival", 11, ⟨"LaceRanks$Guests", "<init>", "()V"⟩, "LaceRanks"), ("LaceRanks$Carnival", 20, ⟨"LaceRanks$Lines", "<init>", "()V"⟩, "LaceRanks"), ("LaceRanks$Carnival", 39, ⟨"LaceRanks", "copyRow", "([I[I)V"⟩, "LaceRanks"), ("LaceRanks$Carnival", 49, ⟨"LaceRanks$Guests", "takeIn", "(III)I"⟩, "LaceRanks"), ("LaceRanks$Carnival", 53, ⟨"LaceRanks$Guests", "wornCoat", "(I)I"⟩, "LaceRanks"), ("LaceRanks$Carnival", 57, ⟨"LaceRanks$Guests", "isIn", "(I)Z"⟩, "LaceRanks"), ("LaceRanks$Carnival", 61, ⟨"LaceRanks$Lines", "gateOf", "(I)I"⟩, "LaceRanks"), ("LaceRanks$Carnival", 67, ⟨"LaceRanks", "at", "([II)I"⟩, "LaceRanks"), ("LaceRanks$Carnival", 77, ⟨"LaceRanks$Guests", "takeOut", "(I)V"⟩, "LaceRanks"), ("LaceRanks$Carnival", 81, ⟨"LaceRanks$Lines", "renumberWithout", "(I)V"⟩, "LaceRanks"), ("LaceRanks$Carnival", 90, ⟨"LaceRanks", "put", "([III)V"⟩, "LaceRanks"), ("LaceRanks$Carnival", 100, ⟨"LaceRanks$Guests", "payFromPurse", "(II)I"⟩, "LaceRanks"), ("LaceRanks$Carnival", 109, ⟨"LaceRanks$Guests", "wornLace", "(I)I"⟩, "LaceRanks"), ("LaceRanks$Carnival", 136, ⟨"LaceRanks$Lines", "takeFirst", "(I)I"⟩, "LaceRanks"), ("LaceRanks$Carnival", 139, ⟨"LaceRanks$Guests", "has", "(I)Z"⟩, "LaceRanks"), ("LaceRanks$Carnival", 161, ⟨"LaceRanks", "sumOf", "([II)I"⟩, "LaceRanks"), ("LaceRanks$Carnival", 164, ⟨"LaceRanks$Guests", "passNight", "()V"⟩, "LaceRanks"), ("LaceRanks$Carnival", 167, ⟨"LaceRanks$Lines", "sendAllAway", "()V"⟩, "LaceRanks"), ("LaceRanks$Carnival", 198, ⟨"LaceRanks$Lines", "placeOf", "(I)I"⟩, "LaceRanks"), ("LaceRanks$Carnival", 204, ⟨"LaceRanks$Guests", "howManyMasked", "()I"⟩, "LaceRanks"), ("LaceRanks$Carnival", 208, ⟨"LaceRanks$Guests", "bitsOfInside", "()I"⟩, "LaceRanks"), ("LaceRanks$Carnival", 211, ⟨"LaceRanks$Guests", "copyGuests", "(LLaceRanks$Guests;)V"⟩, "LaceRanks"), ("LaceRanks$Carnival", 215, ⟨"LaceRanks$Lines", "copyLines", "(LLaceRanks$Lines;)V"⟩, "LaceRanks"), ("LaceRanks$Guests", 40, ⟨"LaceRanks", "put", "([III)V"⟩, "LaceRanks"), ("LaceRanks$Guests", 48, ⟨"LaceRanks", "at", "([II)I"⟩, "LaceRanks"), ("LaceRanks$Guests", 69, ⟨"LaceRanks", "copyRow", "([I[I)V"⟩, "LaceRanks"), ("LaceRanks$History", 17, ⟨"LaceRanks$Carnival", "<init>", "()V"⟩, "LaceRanks"), ("LaceRanks$History", 29, ⟨"LaceRanks$Carnival", "copyState", "(LLaceRanks$Carnival;)V"⟩, "LaceRanks"), ("LaceRanks$Lines", 18, ⟨"LaceRanks", "at", "([II)I"⟩, "LaceRanks"), ("LaceRanks$Lines", 22, ⟨"LaceRanks", "put", "([III)V"⟩, "LaceRanks"), ("LaceRanks$Lines", 34, ⟨"LaceRanks$Guests", "numberWithout", "(II)I"⟩, "LaceRanks"), ("LaceRanks$Lines", 39, ⟨"LaceRanks", "copyRow", "([I[I)V"⟩, "LaceRanks")]
def nws : List Cond := nwF.map (fun q => Cond.fieldLinkNest q.1 q.2.1 q.2.2.1 q.2.2.2.1 q.2.2.2.2.1 q.2.2.2.2.2) ++ nwM.map (fun q => Cond.methodLinkNest q.1 q.2.1 q.2.2.1 q.2.2.2)
def NW (U : State) : Prop := ∀ w ∈ nws, va_Nw w U
theorem nw_X5_45 {s : State} (h : NW s) {args : Array Value} : (Cond.fieldLinkNest "LaceRanks" 45 "LaceRanks$Carnival" "guests" "LLaceRanks$Guests;" "LaceRanks").before args s = true := va_Nw.use rfl (h _ (List.mem_of_getElem? (i := 0) rfl))
theorem nw_X5_49 {s : State} (h : NW s) {args : Array Value} : (Cond.fieldLinkNest "LaceRanks" 49 "LaceRanks$Guests" "size" "I" "LaceRanks").before args s = true := va_Nw.use rfl (h _ (List.mem_of_getElem? (i := 1) rfl))
theorem nw_X5_89 {s : State} (h : NW s) {args : Array Value} : (Cond.fieldLinkNest "LaceRanks" 89 "LaceRanks$Guests" "lace" "[I" "LaceRanks").before args s = true := va_Nw.use rfl (h _ (List.mem_of_getElem? (i := 2) rfl))
theorem nw_X5_109 {s : State} (h : NW s) {args : Array Value} : (Cond.fieldLinkNest "LaceRanks" 109 "LaceRanks$Guests" "purse" "[I" "LaceRanks").before args s = true := va_Nw.use rfl (h _ (List.mem_of_getElem? (i := 3) rfl))
theorem nw_X5_115 {s : State} (h : NW s) {args : Array Value} : (Cond.fieldLinkNest "LaceRanks" 115 "LaceRanks$Guests" "debts" "[I" "LaceRanks").before args s = true := va_Nw.use rfl (h _ (List.mem_of_getElem? (i := 4) rfl))
theorem nw_X5_127 {s : State} (h : NW s) {args : Array Value} : (Cond.fieldLinkNest "LaceRanks" 127 "LaceRanks$Carnival" "lines" "LLaceRanks$Lines;" "LaceRanks").before args s = true := va_Nw.use rfl (h _ (List.mem_of_getElem? (i := 5) rfl))
theorem nw_X5_136 {s : State} (h : NW s) {args : Array Value} : (Cond.fieldLinkNest "LaceRanks" 136 "LaceRanks$Lines" "lengths" "[I" "LaceRanks").before args s = true := va_Nw.use rfl (h _ (List.mem_of_getElem? (i := 6) rfl))
theorem nw_X5_152 {s : State} (h : NW s) {args : Array Value} : (Cond.fieldLinkNest "LaceRanks" 152 "LaceRanks$Carnival" "settings" "[I" "LaceRanks").before args s = true := va_Nw.use rfl (h _ (List.mem_of_getElem? (i := 7) rfl))
theorem nw_X5_184 {s : State} (h : NW s) {args : Array Value} : (Cond.fieldLinkNest "LaceRanks" 184 "LaceRanks$History" "size" "I" "LaceRanks").before args s = true := va_Nw.use rfl (h _ (List.mem_of_getElem? (i := 8) rfl))
theorem nw_X5_191 {s : State} (h : NW s) {args : Array Value} : (Cond.fieldLinkNest "LaceRanks" 191 "LaceRanks$Carnival" "nightNumber" "I" "LaceRanks").before args s = true := va_Nw.use rfl (h _ (List.mem_of_getElem? (i := 9) rfl))
theorem nw_X0_36 {s : State} (h : NW s) {args : Array Value} : (Cond.fieldLinkNest "LaceRanks$Carnival" 36 "LaceRanks" "SETTING_FIRST" "[I" "LaceRanks").before args s = true := va_Nw.use rfl (h _ (List.mem_of_getElem? (i := 10) rfl))
theorem nw_X0_64 {s : State} (h : NW s) {args : Array Value} : (Cond.fieldLinkNest "LaceRanks$Carnival" 64 "LaceRanks$Guests" "debts" "[I" "LaceRanks").before args s = true := va_Nw.use rfl (h _ (List.mem_of_getElem? (i := 11) rfl))
theorem nw_X0_71 {s : State} (h : NW s) {args : Array Value} : (Cond.fieldLinkNest "LaceRanks$Carnival" 71 "LaceRanks$Guests" "purse" "[I" "LaceRanks").before args s = true := va_Nw.use rfl (h _ (List.mem_of_getElem? (i := 12) rfl))
theorem nw_X0_74 {s : State} (h : NW s) {args : Array Value} : (Cond.fieldLinkNest "LaceRanks$Carnival" 74 "LaceRanks$Guests" "lace" "[I" "LaceRanks").before args s = true := va_Nw.use rfl (h _ (List.mem_of_getElem? (i := 13) rfl))
theorem nw_X0_94 {s : State} (h : NW s) {args : Array Value} : (Cond.fieldLinkNest "LaceRanks$Carnival" 94 "LaceRanks$Guests" "maskNights" "[I" "LaceRanks").before args s = true := va_Nw.use rfl (h _ (List.mem_of_getElem? (i := 14) rfl))
theorem nw_X0_112 {s : State} (h : NW s) {args : Array Value} : (Cond.fieldLinkNest "LaceRanks$Carnival" 112 "LaceRanks$Guests" "rank" "[I" "LaceRanks").before args s = true := va_Nw.use rfl (h _ (List.mem_of_getElem? (i := 15) rfl))
theorem nw_X0_121 {s : State} (h : NW s) {args : Array Value} : (Cond.fieldLinkNest "LaceRanks$Carnival" 121 "LaceRanks$Guests" "lender" "[I" "LaceRanks").before args s = true := va_Nw.use rfl (h _ (List.mem_of_getElem? (i := 16) rfl))
theorem nw_X0_146 {s : State} (h : NW s) {args : Array Value} : (Cond.fieldLinkNest "LaceRanks$Carnival" 146 "LaceRanks$Guests" "inside" "[I" "LaceRanks").before args s = true := va_Nw.use rfl (h _ (List.mem_of_getElem? (i := 17) rfl))
theorem nw_X0_158 {s : State} (h : NW s) {args : Array Value} : (Cond.fieldLinkNest "LaceRanks$Carnival" 158 "LaceRanks$Guests" "size" "I" "LaceRanks").before args s = true := va_Nw.use rfl (h _ (List.mem_of_getElem? (i := 18) rfl))
theorem nw_X0_191 {s : State} (h : NW s) {args : Array Value} : (Cond.fieldLinkNest "LaceRanks$Carnival" 191 "LaceRanks$Lines" "lengths" "[I" "LaceRanks").before args s = true := va_Nw.use rfl (h _ (List.mem_of_getElem? (i := 19) rfl))
theorem nw_X0_201 {s : State} (h : NW s) {args : Array Value} : (Cond.fieldLinkNest "LaceRanks$Carnival" 201 "LaceRanks$Guests" "borrower" "[I" "LaceRanks").before args s = true := va_Nw.use rfl (h _ (List.mem_of_getElem? (i := 20) rfl))
theorem nw_X5_9 {s : State} (h : NW s) : va_Nw (.methodLinkNest "LaceRanks" 9 ⟨"LaceRanks$Carnival", "<init>", "()V"⟩ "LaceRanks") s := h _ (List.mem_of_getElem? (i := 21) rfl)
theorem nw_X5_21 {s : State} (h : NW s) : va_Nw (.methodLinkNest "LaceRanks" 21 ⟨"LaceRanks$History", "<init>", "()V"⟩ "LaceRanks") s := h _ (List.mem_of_getElem? (i := 22) rfl)
theorem nw_X5_28 {s : State} (h : NW s) : va_Nw (.methodLinkNest "LaceRanks" 28 ⟨"LaceRanks$Text", "<init>", "()V"⟩ "LaceRanks") s := h _ (List.mem_of_getElem? (i := 23) rfl)
theorem nw_X5_58 {s : State} (h : NW s) : va_Nw (.methodLinkNest "LaceRanks" 58 ⟨"LaceRanks$History", "save", "(LLaceRanks$Carnival;)V"⟩ "LaceRanks") s := h _ (List.mem_of_getElem? (i := 24) rfl)
theorem nw_X5_62 {s : State} (h : NW s) : va_Nw (.methodLinkNest "LaceRanks" 62 ⟨"LaceRanks$Carnival", "welcome", "(III)I"⟩ "LaceRanks") s := h _ (List.mem_of_getElem? (i := 25) rfl)
theorem nw_X5_70 {s : State} (h : NW s) : va_Nw (.methodLinkNest "LaceRanks" 70 ⟨"LaceRanks$Carnival", "canGo", "(I)Z"⟩ "LaceRanks") s := h _ (List.mem_of_getElem? (i := 26) rfl)
theorem nw_X5_74 {s : State} (h : NW s) : va_Nw (.methodLinkNest "LaceRanks" 74 ⟨"LaceRanks$Carnival", "letGo", "(I)I"⟩ "LaceRanks") s := h _ (List.mem_of_getElem? (i := 27) rfl)
theorem nw_X5_78 {s : State} (h : NW s) : va_Nw (.methodLinkNest "LaceRanks" 78 ⟨"LaceRanks$Carnival", "giveWages", "(II)I"⟩ "LaceRanks") s := h _ (List.mem_of_getElem? (i := 28) rfl)
theorem nw_X5_82 {s : State} (h : NW s) : va_Nw (.methodLinkNest "LaceRanks" 82 ⟨"LaceRanks$Guests", "reasonNoLoan", "(II)I"⟩ "LaceRanks") s := h _ (List.mem_of_getElem? (i := 29) rfl)
theorem nw_X5_85 {s : State} (h : NW s) : va_Nw (.methodLinkNest "LaceRanks" 85 ⟨"LaceRanks$Guests", "lendCoat", "(II)V"⟩ "LaceRanks") s := h _ (List.mem_of_getElem? (i := 30) rfl)
theorem nw_X5_97 {s : State} (h : NW s) : va_Nw (.methodLinkNest "LaceRanks" 97 ⟨"LaceRanks$Guests", "canReturnCoat", "(I)Z"⟩ "LaceRanks") s := h _ (List.mem_of_getElem? (i := 31) rfl)
theorem nw_X5_100 {s : State} (h : NW s) : va_Nw (.methodLinkNest "LaceRanks" 100 ⟨"LaceRanks$Guests", "returnCoat", "(I)I"⟩ "LaceRanks") s := h _ (List.mem_of_getElem? (i := 32) rfl)
theorem nw_X5_103 {s : State} (h : NW s) : va_Nw (.methodLinkNest "LaceRanks" 103 ⟨"LaceRanks$Carnival", "reasonNoMask", "(I)I"⟩ "LaceRanks") s := h _ (List.mem_of_getElem? (i := 33) rfl)
theorem nw_X5_106 {s : State} (h : NW s) : va_Nw (.methodLinkNest "LaceRanks" 106 ⟨"LaceRanks$Carnival", "takeMask", "(I)V"⟩ "LaceRanks") s := h _ (List.mem_of_getElem? (i := 34) rfl)
theorem nw_X5_112 {s : State} (h : NW s) : va_Nw (.methodLinkNest "LaceRanks" 112 ⟨"LaceRanks$Carnival", "payDebts", "(I)V"⟩ "LaceRanks") s := h _ (List.mem_of_getElem? (i := 35) rfl)
theorem nw_X5_124 {s : State} (h : NW s) : va_Nw (.methodLinkNest "LaceRanks" 124 ⟨"LaceRanks$Carnival", "reasonNoLine", "(I)I"⟩ "LaceRanks") s := h _ (List.mem_of_getElem? (i := 36) rfl)
theorem nw_X5_131 {s : State} (h : NW s) : va_Nw (.methodLinkNest "LaceRanks" 131 ⟨"LaceRanks$Lines", "enter", "(II)I"⟩ "LaceRanks") s := h _ (List.mem_of_getElem? (i := 37) rfl)
theorem nw_X5_139 {s : State} (h : NW s) : va_Nw (.methodLinkNest "LaceRanks" 139 ⟨"LaceRanks$Carnival", "openOnce", "(I)I"⟩ "LaceRanks") s := h _ (List.mem_of_getElem? (i := 38) rfl)
theorem nw_X5_142 {s : State} (h : NW s) : va_Nw (.methodLinkNest "LaceRanks" 142 ⟨"LaceRanks$Carnival", "endNight", "()I"⟩ "LaceRanks") s := h _ (List.mem_of_getElem? (i := 39) rfl)
theorem nw_X5_185 {s : State} (h : NW s) : va_Nw (.methodLinkNest "LaceRanks" 185 ⟨"LaceRanks$History", "bringBack", "(LLaceRanks$Carnival;)V"⟩ "LaceRanks") s := h _ (List.mem_of_getElem? (i := 40) rfl)
theorem nw_X5_188 {s : State} (h : NW s) : va_Nw (.methodLinkNest "LaceRanks" 188 ⟨"LaceRanks$Carnival", "copyState", "(LLaceRanks$Carnival;)V"⟩ "LaceRanks") s := h _ (List.mem_of_getElem? (i := 41) rfl)
theorem nw_X5_194 {s : State} (h : NW s) : va_Nw (.methodLinkNest "LaceRanks" 194 ⟨"LaceRanks$Carnival", "guestNumber", "(II)I"⟩ "LaceRanks") s := h _ (List.mem_of_getElem? (i := 42) rfl)
theorem nw_X5_197 {s : State} (h : NW s) : va_Nw (.methodLinkNest "LaceRanks" 197 ⟨"LaceRanks$Carnival", "allowedElls", "(III)I"⟩ "LaceRanks") s := h _ (List.mem_of_getElem? (i := 43) rfl)
theorem nw_X5_203 {s : State} (h : NW s) : va_Nw (.methodLinkNest "LaceRanks" 203 ⟨"LaceRanks$Carnival", "gateNumber", "(III)I"⟩ "LaceRanks") s := h _ (List.mem_of_getElem? (i := 44) rfl)
theorem nw_X5_206 {s : State} (h : NW s) : va_Nw (.methodLinkNest "LaceRanks" 206 ⟨"LaceRanks$Carnival", "gateOfFewestElls", "(I)I"⟩ "LaceRanks") s := h _ (List.mem_of_getElem? (i := 45) rfl)
theorem nw_X5_209 {s : State} (h : NW s) : va_Nw (.methodLinkNest "LaceRanks" 209 ⟨"LaceRanks$Carnival", "nightsUntilAllowed", "(II)I"⟩ "LaceRanks") s := h _ (List.mem_of_getElem? (i := 46) rfl)
theorem nw_X5_212 {s : State} (h : NW s) : va_Nw (.methodLinkNest "LaceRanks" 212 ⟨"LaceRanks$Carnival", "shareOfDecent", "()D"⟩ "LaceRanks") s := h _ (List.mem_of_getElem? (i := 47) rfl)
theorem nw_X5_236 {s : State} (h : NW s) : va_Nw (.methodLinkNest "LaceRanks" 236 ⟨"LaceRanks$Guests", "has", "(I)Z"⟩ "LaceRanks") s := h _ (List.mem_of_getElem? (i := 48) rfl)
theorem nw_X5_269 {s : State} (h : NW s) : va_Nw (.methodLinkNest "LaceRanks" 269 ⟨"LaceRanks$Carnival", "countNumber", "(I)I"⟩ "LaceRanks") s := h _ (List.mem_of_getElem? (i := 49) rfl)
theorem nw_X0_11 {s : State} (h : NW s) : va_Nw (.methodLinkNest "LaceRanks$Carnival" 11 ⟨"LaceRanks$Guests", "<init>", "()V"⟩ "LaceRanks") s := h _ (List.mem_of_getElem? (i := 50) rfl)
theorem nw_X0_20 {s : State} (h : NW s) : va_Nw (.methodLinkNest "LaceRanks$Carnival" 20 ⟨"LaceRanks$Lines", "<init>", "()V"⟩ "LaceRanks") s := h _ (List.mem_of_getElem? (i := 51) rfl)
theorem nw_X0_39 {s : State} (h : NW s) : va_Nw (.methodLinkNest "LaceRanks$Carnival" 39 ⟨"LaceRanks", "copyRow", "([I[I)V"⟩ "LaceRanks") s := h _ (List.mem_of_getElem? (i := 52) rfl)
theorem nw_X0_49 {s : State} (h : NW s) : va_Nw (.methodLinkNest "LaceRanks$Carnival" 49 ⟨"LaceRanks$Guests", "takeIn", "(III)I"⟩ "LaceRanks") s := h _ (List.mem_of_getElem? (i := 53) rfl)
theorem nw_X0_53 {s : State} (h : NW s) : va_Nw (.methodLinkNest "LaceRanks$Carnival" 53 ⟨"LaceRanks$Guests", "wornCoat", "(I)I"⟩ "LaceRanks") s := h _ (List.mem_of_getElem? (i := 54) rfl)
theorem nw_X0_57 {s : State} (h : NW s) : va_Nw (.methodLinkNest "LaceRanks$Carnival" 57 ⟨"LaceRanks$Guests", "isIn", "(I)Z"⟩ "LaceRanks") s := h _ (List.mem_of_getElem? (i := 55) rfl)
theorem nw_X0_61 {s : State} (h : NW s) : va_Nw (.methodLinkNest "LaceRanks$Carnival" 61 ⟨"LaceRanks$Lines", "gateOf", "(I)I"⟩ "LaceRanks") s := h _ (List.mem_of_getElem? (i := 56) rfl)
theorem nw_X0_67 {s : State} (h : NW s) : va_Nw (.methodLinkNest "LaceRanks$Carnival" 67 ⟨"LaceRanks", "at", "([II)I"⟩ "LaceRanks") s := h _ (List.mem_of_getElem? (i := 57) rfl)
theorem nw_X0_77 {s : State} (h : NW s) : va_Nw (.methodLinkNest "LaceRanks$Carnival" 77 ⟨"LaceRanks$Guests", "takeOut", "(I)V"⟩ "LaceRanks") s := h _ (List.mem_of_getElem? (i := 58) rfl)
theorem nw_X0_81 {s : State} (h : NW s) : va_Nw (.methodLinkNest "LaceRanks$Carnival" 81 ⟨"LaceRanks$Lines", "renumberWithout", "(I)V"⟩ "LaceRanks") s := h _ (List.mem_of_getElem? (i := 59) rfl)
theorem nw_X0_90 {s : State} (h : NW s) : va_Nw (.methodLinkNest "LaceRanks$Carnival" 90 ⟨"LaceRanks", "put", "([III)V"⟩ "LaceRanks") s := h _ (List.mem_of_getElem? (i := 60) rfl)
theorem nw_X0_100 {s : State} (h : NW s) : va_Nw (.methodLinkNest "LaceRanks$Carnival" 100 ⟨"LaceRanks$Guests", "payFromPurse", "(II)I"⟩ "LaceRanks") s := h _ (List.mem_of_getElem? (i := 61) rfl)
theorem nw_X0_109 {s : State} (h : NW s) : va_Nw (.methodLinkNest "LaceRanks$Carnival" 109 ⟨"LaceRanks$Guests", "wornLace", "(I)I"⟩ "LaceRanks") s := h _ (List.mem_of_getElem? (i := 62) rfl)
theorem nw_X0_136 {s : State} (h : NW s) : va_Nw (.methodLinkNest "LaceRanks$Carnival" 136 ⟨"LaceRanks$Lines", "takeFirst", "(I)I"⟩ "LaceRanks") s := h _ (List.mem_of_getElem? (i := 63) rfl)
theorem nw_X0_139 {s : State} (h : NW s) : va_Nw (.methodLinkNest "LaceRanks$Carnival" 139 ⟨"LaceRanks$Guests", "has", "(I)Z"⟩ "LaceRanks") s := h _ (List.mem_of_getElem? (i := 64) rfl)
theorem nw_X0_161 {s : State} (h : NW s) : va_Nw (.methodLinkNest "LaceRanks$Carnival" 161 ⟨"LaceRanks", "sumOf", "([II)I"⟩ "LaceRanks") s := h _ (List.mem_of_getElem? (i := 65) rfl)
theorem nw_X0_164 {s : State} (h : NW s) : va_Nw (.methodLinkNest "LaceRanks$Carnival" 164 ⟨"LaceRanks$Guests", "passNight", "()V"⟩ "LaceRanks") s := h _ (List.mem_of_getElem? (i := 66) rfl)
theorem nw_X0_167 {s : State} (h : NW s) : va_Nw (.methodLinkNest "LaceRanks$Carnival" 167 ⟨"LaceRanks$Lines", "sendAllAway", "()V"⟩ "LaceRanks") s := h _ (List.mem_of_getElem? (i := 67) rfl)
theorem nw_X0_198 {s : State} (h : NW s) : va_Nw (.methodLinkNest "LaceRanks$Carnival" 198 ⟨"LaceRanks$Lines", "placeOf", "(I)I"⟩ "LaceRanks") s := h _ (List.mem_of_getElem? (i := 68) rfl)
theorem nw_X0_204 {s : State} (h : NW s) : va_Nw (.methodLinkNest "LaceRanks$Carnival" 204 ⟨"LaceRanks$Guests", "howManyMasked", "()I"⟩ "LaceRanks") s := h _ (List.mem_of_getElem? (i := 69) rfl)
theorem nw_X0_208 {s : State} (h : NW s) : va_Nw (.methodLinkNest "LaceRanks$Carnival" 208 ⟨"LaceRanks$Guests", "bitsOfInside", "()I"⟩ "LaceRanks") s := h _ (List.mem_of_getElem? (i := 70) rfl)
theorem nw_X0_211 {s : State} (h : NW s) : va_Nw (.methodLinkNest "LaceRanks$Carnival" 211 ⟨"LaceRanks$Guests", "copyGuests", "(LLaceRanks$Guests;)V"⟩ "LaceRanks") s := h _ (List.mem_of_getElem? (i := 71) rfl)
theorem nw_X0_215 {s : State} (h : NW s) : va_Nw (.methodLinkNest "LaceRanks$Carnival" 215 ⟨"LaceRanks$Lines", "copyLines", "(LLaceRanks$Lines;)V"⟩ "LaceRanks") s := h _ (List.mem_of_getElem? (i := 72) rfl)
theorem nw_X1_40 {s : State} (h : NW s) : va_Nw (.methodLinkNest "LaceRanks$Guests" 40 ⟨"LaceRanks", "put", "([III)V"⟩ "LaceRanks") s := h _ (List.mem_of_getElem? (i := 73) rfl)
theorem nw_X1_48 {s : State} (h : NW s) : va_Nw (.methodLinkNest "LaceRanks$Guests" 48 ⟨"LaceRanks", "at", "([II)I"⟩ "LaceRanks") s := h _ (List.mem_of_getElem? (i := 74) rfl)
theorem nw_X1_69 {s : State} (h : NW s) : va_Nw (.methodLinkNest "LaceRanks$Guests" 69 ⟨"LaceRanks", "copyRow", "([I[I)V"⟩ "LaceRanks") s := h _ (List.mem_of_getElem? (i := 75) rfl)
theorem nw_X2_17 {s : State} (h : NW s) : va_Nw (.methodLinkNest "LaceRanks$History" 17 ⟨"LaceRanks$Carnival", "<init>", "()V"⟩ "LaceRanks") s := h _ (List.mem_of_getElem? (i := 76) rfl)
theorem nw_X2_29 {s : State} (h : NW s) : va_Nw (.methodLinkNest "LaceRanks$History" 29 ⟨"LaceRanks$Carnival", "copyState", "(LLaceRanks$Carnival;)V"⟩ "LaceRanks") s := h _ (List.mem_of_getElem? (i := 77) rfl)
theorem nw_X3_18 {s : State} (h : NW s) : va_Nw (.methodLinkNest "LaceRanks$Lines" 18 ⟨"LaceRanks", "at", "([II)I"⟩ "LaceRanks") s := h _ (List.mem_of_getElem? (i := 78) rfl)
theorem nw_X3_22 {s : State} (h : NW s) : va_Nw (.methodLinkNest "LaceRanks$Lines" 22 ⟨"LaceRanks", "put", "([III)V"⟩ "LaceRanks") s := h _ (List.mem_of_getElem? (i := 79) rfl)
theorem nw_X3_34 {s : State} (h : NW s) : va_Nw (.methodLinkNest "LaceRanks$Lines" 34 ⟨"LaceRanks$Guests", "numberWithout", "(II)I"⟩ "LaceRanks") s := h _ (List.mem_of_getElem? (i := 80) rfl)
theorem nw_X3_39 {s : State} (h : NW s) : va_Nw (.methodLinkNest "LaceRanks$Lines" 39 ⟨"LaceRanks", "copyRow", "([I[I)V"⟩ "LaceRanks") s := h _ (List.mem_of_getElem? (i := 81) rfl)
theorem NW.warm {s U : State} (hW : s.WarmedH U.vm) (h : NW s) : NW U := by
  intro w hw
  have h0 := h w hw
  rcases List.mem_append.mp hw with h1 | h1
  · obtain ⟨q, -, rfl⟩ := List.mem_map.mp h1
    exact va_Nw.warmF hW h0
  · obtain ⟨q, -, rfl⟩ := List.mem_map.mp h1
    exact va_Nw.warmM hW h0
theorem NW.same {u U : State} (hv : u.vm = U.vm) (h : NW u) : NW U := by
  intro w hw
  have h0 := h w hw
  rcases List.mem_append.mp hw with h1 | h1
  · obtain ⟨q, -, rfl⟩ := List.mem_map.mp h1
    exact va_Nw.same rfl hv h0
  · obtain ⟨q, -, rfl⟩ := List.mem_map.mp h1
    exact va_Nw.same rfl hv h0
/-! ===== pure control ===== -/
def bnd {α β : Type} (x : Option α) (f : α → Option β) : Option β := match x with
  | none => none
  | some a => f a
theorem bndE {α β : Type} {x : Option α} {f : α → Option β} {r : Option β} {y : β} (hr : r = some y) (h : bnd x f = r) : ∃ a, x = some a ∧ f a = r := by
  subst hr
  cases x with
  | none => cases h
  | some a => exact ⟨a, rfl, h⟩
def nm {α β : Type} (x : α) (f : α → Option β) : Option β := f x
theorem nmE {α β : Type} {x : α} {f : α → Option β} {r : Option β} (h : nm x f = r) : ∃ a, a = x ∧ f a = r := ⟨x, rfl, h⟩
def gd {β : Type} (b : Bool) (x : Option β) : Option β := match b with
  | true => x
  | false => none
theorem gdE {β : Type} {b : Bool} {x : Option β} {y : β} (h : gd b x = some y) : b = true ∧ x = some y := by
  cases b with
  | true => exact ⟨rfl, h⟩
  | false => cases h
theorem bndS {α β : Type} {x : Option α} {f : α → Option β} {y : β} (h : bnd x f = some y) : ∃ a, x = some a ∧ f a = some y := bndE rfl h
def bnd2 {α β γ : Type} (x : Option (α × β)) (f : α → β → Option γ) : Option γ := match x with
  | none => none
  | some (a, b) => f a b
theorem bnd2S {α β γ : Type} {x : Option (α × β)} {f : α → β → Option γ} {y : γ} (h : bnd2 x f = some y) : ∃ a b, x = some (a, b) ∧ f a b = some y := by
  cases x with
  | none => cases h
  | some q => exact ⟨q.1, q.2, rfl, h⟩
def bnd3 {α β γ δ : Type} (x : Option (α × β × γ)) (f : α → β → γ → Option δ) : Option δ := match x with
  | none => none
  | some (a, b, c) => f a b c
theorem bnd3S {α β γ δ : Type} {x : Option (α × β × γ)} {f : α → β → γ → Option δ} {y : δ} (h : bnd3 x f = some y) : ∃ a b c, x = some (a, b, c) ∧ f a b c = some y := by
  cases x with
  | none => cases h
  | some q => exact ⟨q.1, q.2.1, q.2.2, rfl, h⟩
theorem iteT {α : Type} {c : Prop} [Decidable c] {a b x : α} (h : (if c then a else b) = x) (hc : c) : a = x := by
  rw [if_pos hc] at h
  exact h
theorem iteF {α : Type} {c : Prop} [Decidable c] {a b x : α} (h : (if c then a else b) = x) (hc : ¬ c) : b = x := by
  rw [if_neg hc] at h
  exact h
def inb (i : Int32) (n : Nat) : Bool := !(decide (i < 0)) && decide (i.toNatClampNeg < n)
theorem inb_in {i : Int32} {n : Nat} (h : inb i n = true) : vp_in i n := by
  simp only [inb, Bool.and_eq_true, Bool.not_eq_true', decide_eq_false_iff_not, decide_eq_true_eq] at h
  rintro (h1 | h1)
  · exact h.1 h1
  · exact absurd h.2 (Nat.not_lt.mpr h1)
def upR (K : Nat → Nat → Int32) (r : Nat) (f : Nat → Int32) : Nat → Nat → Int32 := fun q => if q = r then f else K q
def upS (K : Nat → Nat → Int32) (r i : Nat) (v : Int32) : Nat → Nat → Int32 := upR K r (upd (K r) i v)
/-! ===== worlds ===== -/
abbrev tysX (cI cR : ClassId) : List (ClassId × FieldType) := [(cI, .int), (cR, .object "LaceRanks$Carnival")]
def WB (D : va_G) (cI cR : ClassId) (A : Nat → Prop) (w : va_W) (U : State) : Prop := va_P D vwCl w U.heap ∧ va_K D vwCl (tysX cI cR) U ∧ va_D A w ∧ NW U
def WH (D : va_G) (cI cR : ClassId) (A : Nat → Prop) (w : va_W) (s : State) (H : Heap) (locs : List Loc) : Prop := va_P D vwCl w H ∧ va_K D vwCl (tysX cI cR) s ∧ va_D A w ∧ va_S A s.heap H locs ∧ NW s
/-- a method's end: its answer, its world, what stayed -/
def QV (v : Option Value) (D : va_G) (A : Nat → Prop) (w : va_W) : Array Value → State → Outcome → State → Prop := fun _ st oc t => oc = .returned v ∧ va_P D vwCl w t.heap ∧ va_D A w ∧ va_F A st t
abbrev MC (l : Launch) (y : MethodName) (ws : List Cond) (fr lo : Nat) (D : va_G) (cI cR : ClassId) (A : Nat → Prop) (av : List Value) (w : va_W) (v : Option Value) (w' : va_W) : Prop := Met l y ws ({ frames := fr, cells := 0, slots := 0, locals := lo }) (va_Pc av (WB D cI cR A w)) (QV v D A w') 0 0 A
theorem q_blind {D : va_G} {cI cR : ClassId} {A : Nat → Prop} {w : va_W} {av : List Value} : FrameBlind (va_Pc av (WB D cI cR A w)) := fun a U g mk h => ⟨h.1, h.2.1, va_K.moved (u := U) (U := U.calling g mk a) (Vm.Alike.refl U.vm) h.2.2.1, h.2.2.2.1, NW.same (u := U) (U := U.calling g mk a) rfl h.2.2.2.2⟩
theorem q_start {D : va_G} {cI cR : ClassId} {A : Nat → Prop} {w : va_W} {av : List Value} {args : Array Value} {s : State} (h : va_Pc av (WB D cI cR A w) args s) : args = av.toArray ∧ WH D cI cR A w s s.heap [] := ⟨h.1, h.2.1, h.2.2.1, h.2.2.2.1, va_S.rf, h.2.2.2.2⟩
section QR
variable {p : Program} {l : Launch} {e : Env} {R : Room} {s : State} {m : MethodId} {args : Array Value} {below : List Frame} {meth : Method} {c : Code} {H : Heap} {locs : List Loc} {cells slots : Nat} {Q : State → Prop}
variable {cc : ByteArray} {pc : Nat} {ls : Array Slot} {rest st0 st1 : List Value} {D : va_G} {cI cR : ClassId} {A : Nat → Prop} {a : Nat} {w w' : va_W}
theorem q_preS {av : List Value} (hw : WH D cI cR A w s H locs) : PreS s H (va_Pc av (WB D cI cR A w)) av := ⟨q_blind, fun U hU hW => ⟨rfl, by rw [hU]; exact hw.1, va_K.moved hW.alike hw.2.1, hw.2.2.1, hw.2.2.2.2.warm hW⟩⟩
theorem q_preV {C : String} {T : u_T} {N ci q0 b : Nat} {fs As : List Value} (hw : WH D cI cR A w s H locs) (he : w[q0]? = some (b, .inr (ci, fs))) (hc : vwCl[ci]? = some (C, T, N)) : PreV s H C b (va_Pc (.ref b :: As) (WB D cI cR A w)) As := ⟨q_blind, va_recv hw.2.1 hw.1 (ci := ci) (q0 := q0) hc he, (q_preS (av := .ref b :: As) hw).2⟩
/-- a call has run: on with its world -/
theorem q_run {v : Option Value} {av : Array Value} (hr : va_Run p l e R s m args below meth c H locs cells slots 0 0 (F0 m pc ls st0) rest (QV v D A w' av) A) (hw : WH D cI cR A w s H locs) (h1 : v.toList ++ rest = st1)
    (kk : ∀ (H1 : Heap) (locs1 : List Loc), WH D cI cR A w' s H1 locs1 → W p l e R s m args below meth c H1 locs1 cells slots Q (F0 m (pc + 3) ls st1)) : W p l e R s m args below meth c H locs cells slots Q (F0 m pc ls st0) := by
  subst h1
  intro T hT X
  obtain ⟨v', st₀, t, T', L, h0, X', hL, e1, e2, ⟨hv, hP', hD', hz, hk⟩, st⟩ := hr T hT X
  cases hv
  rw [h0] at hz hk
  have hS := hw.2.2.2.1
  obtain ⟨t2, a1, b1⟩ := kk T'.heap (locs ++ L) ⟨by rw [e1]; exact hP', hw.2.1, hD', ⟨Nat.le_trans hS.1 (by rw [e1]; exact hz), fun q h1 h2 => by rw [e1, hk q (Nat.lt_of_lt_of_le h1 hS.1) h2]; exact hS.2.1 q h1 h2, fun q hq => by
      rcases List.mem_append.mp hq with h | h
      · exact hS.2.2 q h
      · exact hL q h⟩, hw.2.2.2.2⟩ T' rfl X'
  exact ⟨t2, st t2 a1, b1⟩
theorem q_callV {v : Option Value} {y : MethodName} {bytes : ByteArray} {maxL nL n index fr lo ci N q0 b : Nat} {ret : Option FieldType} {ws Ts : List Cond} {own C : String} {T : u_T} {fs : List Value} (As : List Value) (S : CallFix p m c cc nL s args Ts own) (hM : MC l y ws fr lo D cI cR A (.ref b :: As) w v w') (cw : CallW R s args own C index y bytes maxL ret ws ({ frames := fr, cells := 0, slots := 0, locals := lo }) 0 0 n)
    (hw : WH D cI cR A w s H locs) (he : w[q0]? = some (b, .inr (ci, fs))) (hc : vwCl[ci]? = some (C, T, N)) (hn : As.length = n) (hsize : ls.size = nL) (hst : st0 = As.reverse ++ .ref b :: rest) (hrm : (rest.map fun v => v.category).sum ≤ 8) (hdg : decode cc pc = .ok (.invokevirtual index, 3)) (hcs : cells + 0 ≤ R.cells ∧ slots + 0 ≤ R.slots) (h1 : v.toList ++ rest = st1)
    (kk : ∀ (H1 : Heap) (locs1 : List Loc), WH D cI cR A w' s H1 locs1 → W p l e R s m args below meth c H1 locs1 cells slots Q (F0 m (pc + 3) ls st1)) : W p l e R s m args below meth c H locs cells slots Q (F0 m pc ls st0) :=
  q_run (va_runV (g := F0 m pc ls st0) (rest := rest) S hM cw (q_preV hw he hc) rfl hn hsize hst (lv_room hrm) hdg hcs) hw h1 kk
theorem q_callVN {v : Option Value} {y : MethodName} {bytes : ByteArray} {maxL nL n index fr lo ci N q0 b : Nat} {ret : Option FieldType} {ws Ts : List Cond} {own C host : String} {T : u_T} {fs : List Value} (As : List Value) (S : CallFix p m c cc nL s args Ts own) (hM : MC l y ws fr lo D cI cR A (.ref b :: As) w v w') (cw : va_CN R s args own index y host bytes maxL ret ws ({ frames := fr, cells := 0, slots := 0, locals := lo }) 0 0 n ∧ (Cond.instanceMethod y).before args s = true ∧ (Cond.selects C y y).before args s = true)
    (hw : WH D cI cR A w s H locs) (he : w[q0]? = some (b, .inr (ci, fs))) (hc : vwCl[ci]? = some (C, T, N)) (hn : As.length = n) (hsize : ls.size = nL) (hst : st0 = As.reverse ++ .ref b :: rest) (hrm : (rest.map fun v => v.category).sum ≤ 8) (hdg : decode cc pc = .ok (.invokevirtual index, 3)) (hcs : cells + 0 ≤ R.cells ∧ slots + 0 ≤ R.slots) (h1 : v.toList ++ rest = st1)
    (kk : ∀ (H1 : Heap) (locs1 : List Loc), WH D cI cR A w' s H1 locs1 → W p l e R s m args below meth c H1 locs1 cells slots Q (F0 m (pc + 3) ls st1)) : W p l e R s m args below meth c H locs cells slots Q (F0 m pc ls st0) :=
  q_run (va_runVN (g := F0 m pc ls st0) (rest := rest) S hM cw (q_preV hw he hc) rfl hn hsize hst (lv_room hrm) hdg hcs) hw h1 kk
theorem q_callS {v : Option Value} {y : MethodName} {bytes : ByteArray} {maxL nL n index fr lo : Nat} {ret : Option FieldType} {ws Ts : List Cond} {own : String} (As : List Value) (S : CallFix p m c cc nL s args Ts own) (hM : MC l y ws fr lo D cI cR A As w v w') (cw : CallB R s args own index y bytes maxL ret ws ({ frames := fr, cells := 0, slots := 0, locals := lo }) 0 0 n ∧ (Cond.static y).before args s = true)
    (hw : WH D cI cR A w s H locs) (hn : As.length = n) (hsize : ls.size = nL) (hst : st0 = As.reverse ++ rest) (hrm : (rest.map fun v => v.category).sum ≤ 8) (hdg : decode cc pc = .ok (.invokestatic index, 3)) (hcs : cells + 0 ≤ R.cells ∧ slots + 0 ≤ R.slots) (h1 : v.toList ++ rest = st1)
    (kk : ∀ (H1 : Heap) (locs1 : List Loc), WH D cI cR A w' s H1 locs1 → W p l e R s m args below meth c H1 locs1 cells slots Q (F0 m (pc + 3) ls st1)) : W p l e R s m args below meth c H locs cells slots Q (F0 m pc ls st0) :=
  q_run (va_runS (g := F0 m pc ls st0) (rest := rest) S hM cw (q_preS hw) rfl hn hsize hst (lv_room hrm) hdg hcs) hw h1 kk
theorem q_callSN {v : Option Value} {y : MethodName} {bytes : ByteArray} {maxL nL n index fr lo : Nat} {ret : Option FieldType} {ws Ts : List Cond} {own host : String} (As : List Value) (S : CallFix p m c cc nL s args Ts own) (hM : MC l y ws fr lo D cI cR A As w v w') (cw : va_CN R s args own index y host bytes maxL ret ws ({ frames := fr, cells := 0, slots := 0, locals := lo }) 0 0 n ∧ (Cond.static y).before args s = true ∧ True)
    (hw : WH D cI cR A w s H locs) (hn : As.length = n) (hsize : ls.size = nL) (hst : st0 = As.reverse ++ rest) (hrm : (rest.map fun v => v.category).sum ≤ 8) (hdg : decode cc pc = .ok (.invokestatic index, 3)) (hcs : cells + 0 ≤ R.cells ∧ slots + 0 ≤ R.slots) (h1 : v.toList ++ rest = st1)
    (kk : ∀ (H1 : Heap) (locs1 : List Loc), WH D cI cR A w' s H1 locs1 → W p l e R s m args below meth c H1 locs1 cells slots Q (F0 m (pc + 3) ls st1)) : W p l e R s m args below meth c H locs cells slots Q (F0 m pc ls st0) :=
  q_run (va_runSN (g := F0 m pc ls st0) (rest := rest) S hM cw (q_preS hw) rfl hn hsize hst (lv_room hrm) hdg hcs) hw h1 kk
/-- a getfield, a putfield of a world's object -/
theorem q_get (hexec : p.tables.exec = Jvm.exec) (hb : c.code = cc) {own C : String} {T : u_T} {N ci index : Nat} {Ts : List Cond} (hts : ∀ w ∈ Ts, w.before args s = true) (hin : ∀ w ∈ u_ws C T N, w ∈ Ts) (hown : s.vm.findClass own = some m.cls) (hw : WH D cI cR A w s H locs) (q0 : Nat) {fs : List Value} (he : w[q0]? = some (a, .inr (ci, fs))) (hc : vwCl[ci]? = some (C, T, N)) (k : Nat) (hk : k < N) (hlink : (Cond.fieldLink own index (T k).1 (T k).2.1 (T k).2.2.1).before args s = true) {v : Value} (hv : fs[k]? = some v) (hdg : decode cc pc = .ok (.getfield index, 3))
    (kk : W p l e R s m args below meth c H locs cells slots Q (F0 m (pc + 3) ls (v :: rest))) : W p l e R s m args below meth c H locs cells slots Q (F0 m pc ls (.ref a :: rest)) :=
  va_get hexec hb hts hin hown hw.2.1 hw.1 q0 he hc k hk hlink (fun _ h => h) hv hdg kk
theorem q_getN (hexec : p.tables.exec = Jvm.exec) (hb : c.code = cc) {own C host : String} {T : u_T} {N ci index : Nat} {Ts : List Cond} (hts : ∀ w ∈ Ts, w.before args s = true) (hin : ∀ w ∈ u_ws C T N, w ∈ Ts) (hown : s.vm.findClass own = some m.cls) (hw : WH D cI cR A w s H locs) (q0 : Nat) {fs : List Value} (he : w[q0]? = some (a, .inr (ci, fs))) (hc : vwCl[ci]? = some (C, T, N)) (k : Nat) (hk : k < N) (hlink : (Cond.fieldLinkNest own index (T k).1 (T k).2.1 (T k).2.2.1 host).before args s = true) {v : Value} (hv : fs[k]? = some v) (hdg : decode cc pc = .ok (.getfield index, 3))
    (kk : W p l e R s m args below meth c H locs cells slots Q (F0 m (pc + 3) ls (v :: rest))) : W p l e R s m args below meth c H locs cells slots Q (F0 m pc ls (.ref a :: rest)) :=
  va_getN hexec hb hts hin hown hw.2.1 hw.1 q0 he hc k hk hlink (fun _ h => h) hv hdg kk
theorem q_put (hexec : p.tables.exec = Jvm.exec) (hb : c.code = cc) {own C : String} {T : u_T} {N ci index : Nat} {Ts : List Cond} (hts : ∀ w ∈ Ts, w.before args s = true) (hin : ∀ w ∈ u_ws C T N, w ∈ Ts) (ty0 : Nat → FieldType) (hty : ∀ k, k < N → parseFieldDescriptor (T k).2.2.1 = some (ty0 k)) (hnm : ∀ a, a < N → ∀ b, b < N → a ≠ b → (T a).2.1 ≠ (T b).2.1) (hown : s.vm.findClass own = some m.cls) (hw : WH D cI cR A w s H locs) (q0 : Nat) {fs : List Value} (he : w[q0]? = some (a, .inr (ci, fs))) (hc : vwCl[ci]? = some (C, T, N)) (k : Nat) (hk : k < N) (hlink : (Cond.fieldLink own index (T k).1 (T k).2.1 (T k).2.2.1).before args s = true) (hfin : (T k).2.2.2 = false) {ty : FieldType} {v : Value} (hd : parseFieldDescriptor (T k).2.2.1 = some ty) (hn : narrow ty v = v) (hfit : fits ty v = true) (hl : k < fs.length)
    (hdg : decode cc pc = .ok (.putfield index, 3)) (hset : w.set q0 (a, .inr (ci, fs.set k v)) = w') (kk : ∀ (H1 : Heap) (locs1 : List Loc), WH D cI cR A w' s H1 locs1 → W p l e R s m args below meth c H1 locs1 cells slots Q (F0 m (pc + 3) ls rest)) : W p l e R s m args below meth c H locs cells slots Q (F0 m pc ls (v :: .ref a :: rest)) :=
  va_put hexec hb hts hin ty0 hty hnm hown hw.2.1 hw.1 hw.2.2.1 hw.2.2.2.1 q0 he hc k hk hlink (fun _ h => h) hfin hd hn hfit hl hdg (fun H1 locs1 h1 h2 h3 => kk H1 locs1 ⟨hset ▸ h1, hw.2.1, hset ▸ h2, h3, hw.2.2.2.2⟩)
theorem q_putN (hexec : p.tables.exec = Jvm.exec) (hb : c.code = cc) {own C host : String} {T : u_T} {N ci index : Nat} {Ts : List Cond} (hts : ∀ w ∈ Ts, w.before args s = true) (hin : ∀ w ∈ u_ws C T N, w ∈ Ts) (ty0 : Nat → FieldType) (hty : ∀ k, k < N → parseFieldDescriptor (T k).2.2.1 = some (ty0 k)) (hnm : ∀ a, a < N → ∀ b, b < N → a ≠ b → (T a).2.1 ≠ (T b).2.1) (hown : s.vm.findClass own = some m.cls) (hw : WH D cI cR A w s H locs) (q0 : Nat) {fs : List Value} (he : w[q0]? = some (a, .inr (ci, fs))) (hc : vwCl[ci]? = some (C, T, N)) (k : Nat) (hk : k < N) (hlink : (Cond.fieldLinkNest own index (T k).1 (T k).2.1 (T k).2.2.1 host).before args s = true) (hfin : (T k).2.2.2 = false) {ty : FieldType} {v : Value} (hd : parseFieldDescriptor (T k).2.2.1 = some ty) (hn : narrow ty v = v) (hfit : fits ty v = true) (hl : k < fs.length)
    (hdg : decode cc pc = .ok (.putfield index, 3)) (hset : w.set q0 (a, .inr (ci, fs.set k v)) = w') (kk : ∀ (H1 : Heap) (locs1 : List Loc), WH D cI cR A w' s H1 locs1 → W p l e R s m args below meth c H1 locs1 cells slots Q (F0 m (pc + 3) ls rest)) : W p l e R s m args below meth c H locs cells slots Q (F0 m pc ls (v :: .ref a :: rest)) :=
  va_putN hexec hb hts hin ty0 hty hnm hown hw.2.1 hw.1 hw.2.2.1 hw.2.2.2.1 q0 he hc k hk hlink (fun _ h => h) hfin hd hn hfit hl hdg (fun H1 locs1 h1 h2 h3 => kk H1 locs1 ⟨hset ▸ h1, hw.2.1, hset ▸ h2, h3, hw.2.2.2.2⟩)
/-- rows of ints -/
theorem q_alen (hexec : p.tables.exec = Jvm.exec) (hb : c.code = cc) (hw : WH D cI cR A w s H locs) (q0 : Nat) {n : Nat} {f : Nat → Int32} (ha : w[q0]? = some (a, .inl (cI, n, .inl f))) {v : Int32} (hv : Int32.ofNat n = v) (hdg : decode cc pc = .ok (.arraylength, 1))
    (kk : W p l e R s m args below meth c H locs cells slots Q (F0 m (pc + 1) ls (.int v :: rest))) : W p l e R s m args below meth c H locs cells slots Q (F0 m pc ls (.ref a :: rest)) :=
  va_alen hexec hb hw.2.1 hw.1 q0 0 ha rfl hv hdg kk
theorem q_iald (hexec : p.tables.exec = Jvm.exec) (hb : c.code = cc) (hw : WH D cI cR A w s H locs) (q0 : Nat) {n : Nat} {f : Nat → Int32} (ha : w[q0]? = some (a, .inl (cI, n, .inl f))) {i : Int32} (hin : vp_in i n) (hdg : decode cc pc = .ok (.iaload, 1))
    (kk : W p l e R s m args below meth c H locs cells slots Q (F0 m (pc + 1) ls (.int (f i.toNatClampNeg) :: rest))) : W p l e R s m args below meth c H locs cells slots Q (F0 m pc ls (.int i :: .ref a :: rest)) :=
  va_iald hexec hb hw.2.1 hw.1 q0 0 ha rfl hin hdg kk
theorem q_iast (hexec : p.tables.exec = Jvm.exec) (hb : c.code = cc) (hw : WH D cI cR A w s H locs) (q0 : Nat) {n : Nat} {f : Nat → Int32} (ha : w[q0]? = some (a, .inl (cI, n, .inl f))) {i x : Int32} (hin : vp_in i n) (hdg : decode cc pc = .ok (.iastore, 1)) (hset : w.set q0 (a, .inl (cI, n, .inl (upd f i.toNatClampNeg x))) = w')
    (kk : ∀ (H1 : Heap) (locs1 : List Loc), WH D cI cR A w' s H1 locs1 → W p l e R s m args below meth c H1 locs1 cells slots Q (F0 m (pc + 1) ls rest)) : W p l e R s m args below meth c H locs cells slots Q (F0 m pc ls (.int x :: .int i :: .ref a :: rest)) :=
  va_iast hexec hb hw.2.1 hw.1 hw.2.2.1 hw.2.2.2.1 q0 0 ha rfl hin hdg (fun H1 locs1 h1 h2 h3 => kk H1 locs1 ⟨hset ▸ h1, hw.2.1, hset ▸ h2, h3, hw.2.2.2.2⟩)
/-- ends -/
theorem q_iret {v : Int32} (hexec : p.tables.exec = Jvm.exec) (hb : c.code = cc) (hr : meth.sig.returnType = some .int) (hlocks : meth.locks = false) (hw : WH D cI cR A w s H locs) (hdg : decode cc pc = .ok (.ireturn, 1)) : W p l e R s m args below meth c H locs cells slots (MQ below (QV (some (.int v)) D A w) args s cells slots A) (F0 m pc ls [.int v]) :=
  W.iret hexec hb hr (fun t ht _ => ⟨rfl, by rw [ht]; exact hw.1, hw.2.2.1, hw.2.2.2.1.F ht⟩) hw.2.2.2.1.2.2 hdg hlocks
theorem q_zret {v : Int32} (hexec : p.tables.exec = Jvm.exec) (hb : c.code = cc) (hr : meth.sig.returnType = some .boolean) (hn : narrow .boolean (.int v) = .int v) (hlocks : meth.locks = false) (hw : WH D cI cR A w s H locs) (hdg : decode cc pc = .ok (.ireturn, 1)) : W p l e R s m args below meth c H locs cells slots (MQ below (QV (some (.int v)) D A w) args s cells slots A) (F0 m pc ls [.int v]) :=
  W.zret hexec hb hr hn (fun t ht _ => ⟨rfl, by rw [ht]; exact hw.1, hw.2.2.1, hw.2.2.2.1.F ht⟩) hw.2.2.2.1.2.2 hdg hlocks
theorem q_vret (hexec : p.tables.exec = Jvm.exec) (hb : c.code = cc) (hr : meth.sig.returnType = none) (hlocks : meth.locks = false) (hw : WH D cI cR A w s H locs) (hdg : decode cc pc = .ok (.return_, 1)) : W p l e R s m args below meth c H locs cells slots (MQ below (QV none D A w) args s cells slots A) (F0 m pc ls []) :=
  W.vret hexec hb hr (fun t ht _ => ⟨rfl, by rw [ht]; exact hw.1, hw.2.2.1, hw.2.2.2.1.F ht⟩) hw.2.2.2.1.2.2 hdg hlocks
theorem q_lret {v : Int64} (hexec : p.tables.exec = Jvm.exec) (hb : c.code = cc) (hr : meth.sig.returnType = some .long) (hlocks : meth.locks = false) (hw : WH D cI cR A w s H locs) (hdg : decode cc pc = .ok (.lreturn, 1)) : W p l e R s m args below meth c H locs cells slots (MQ below (QV (some (.long v)) D A w) args s cells slots A) (F0 m pc ls [.long v]) :=
  W.lret hexec hb hr (fun t ht _ => ⟨rfl, by rw [ht]; exact hw.1, hw.2.2.1, hw.2.2.2.1.F ht⟩) hw.2.2.2.1.2.2 hdg hlocks
theorem q_dret {v : UInt64} (hexec : p.tables.exec = Jvm.exec) (hb : c.code = cc) (hr : meth.sig.returnType = some .double) (hlocks : meth.locks = false) (hw : WH D cI cR A w s H locs) (hdg : decode cc pc = .ok (.dreturn, 1)) : W p l e R s m args below meth c H locs cells slots (MQ below (QV (some (.double v)) D A w) args s cells slots A) (F0 m pc ls [.double v]) :=
  W.dret hexec hb hr (fun t ht _ => ⟨rfl, by rw [ht]; exact hw.1, hw.2.2.1, hw.2.2.2.1.F ht⟩) hw.2.2.2.1.2.2 hdg hlocks
/-- a name for a value on the stack's top -/
theorem q_is {x y : Int32} (h : y = x) (k : W p l e R s m args below meth c H locs cells slots Q (F0 m pc ls (.int y :: rest))) : W p l e R s m args below meth c H locs cells slots Q (F0 m pc ls (.int x :: rest)) := h ▸ k
theorem q_isV {x y : Value} (h : y = x) (k : W p l e R s m args below meth c H locs cells slots Q (F0 m pc ls (y :: rest))) : W p l e R s m args below meth c H locs cells slots Q (F0 m pc ls (x :: rest)) := h ▸ k
end QR
theorem nb_0 : narrow .boolean (.int 0) = .int 0 := by decide +kernel
theorem nb_1 : narrow .boolean (.int 1) = .int 1 := by decide +kernel
theorem ofRet {α : Type} {r r' : α} (h : some r = some r') : r = r' := Option.some.inj h
