def f_X5_come_b49    (O : XO) (K : RK) (x1 : Int32) (x2 : Int32) (x3 : Int32) (y0 : Int32) : Option (Int32 × XO × RK) := gd (ndb y0) (bnd (f_X2_save O K) (fun O1 => bnd2 (f_X0_welcome K x1 x2 x3) (fun r2 K3 => some (r2, O1, K3))))
def f_X5_come (O : XO) (K : RK)  (a1 : Int32) (a2 : Int32) (a3 : Int32) : Option (Int32 × XO × RK) := bnd (f_X5_isWithin a1 0 4) (fun r1 => gd (ndb r1) (bnd (f_X5_isWithin a2 0 40) (fun r2 => gd (ndb r2) (bnd (f_X5_isWithin a3 0 99) (fun r3 => gd (ndb r3) ((if 10 ≤ (K 12 0) then f_X5_come_b49 O K a1 a2 a3 0 else f_X5_come_b49 O K a1 a2 a3 1)))))))
set_option maxHeartbeats 4000000 in
set_option maxRecDepth 100000 in
theorem c_X5_come {l : Launch} {D : va_G} {cI cR : ClassId} {ad : Nat → Nat} {A : Nat → Prop} {O : XO} {K : RK} {O' : XO} {K' : RK} {a1 : Int32} {a2 : Int32} {a3 : Int32} {r : Int32}  (hf : f_X5_come O K a1 a2 a3 = some (r, O', K')) : MC l yX5_come wsX5_come 5 105 D cI cR A [.ref (ad 0), .int a1, .int a2, .int a3] (xws cI cR ad O K) (some (.int r)) (xws cI cR ad O' K') := by
  refine Met.ofW (cc := cX5_come) (maxL := 4) (ret := (some .int)) (by decide) rfl ?_
  intro p e s m args below meth c s₁ B hml hv
  obtain ⟨rfl, hw⟩ := q_start hv
  have hx := B.exec
  have hb := B.bytes
  have hr := B.returns
  have hts := atoms_spec (ws := wsX5_come) B.pre
  have hown : s.vm.findClass RX5 = some m.cls := findClass_of_methodNamed B.named
  have hlocks := B.notSynchronized
  have hiX0 : ∀ w ∈ wsX00, w ∈ wsX5_come := by decide +kernel
  have hiX1 : ∀ w ∈ wsX10, w ∈ wsX5_come := by decide +kernel
  have hiX5 : ∀ w ∈ wsX50, w ∈ wsX5_come := by decide +kernel
  have hl := lv_entry ([.ref (ad 0), .int a1, .int a2, .int a3]) (n := 4) (Nat.le_of_ble_eq_true rfl)
  rw [lg_entry_eq]
  generalize (lg_sl ([.ref (ad 0), .int a1, .int a2, .int a3]) ++ List.replicate (4 - (lg_sl ([.ref (ad 0), .int a1, .int a2, .int a3])).length) Slot.unset).toArray = ls at hl ⊢
  have hl : lv_has ls 4 [(0, .ref (ad 0)), (1, .int a1), (2, .int a2), (3, .int a3)] := hl
  unfold f_X5_come at hf
  obtain ⟨H, eH⟩ : ∃ H, H = s.heap := ⟨_, rfl⟩
  obtain ⟨locs, eL⟩ : ∃ L : List Loc, L = [] := ⟨_, rfl⟩
  rw [← eH, ← eL] at hw ⊢
  clear eH eL
  have B49 : ∀ (O : XO) (K : RK) (x1 : Int32) (x2 : Int32) (x3 : Int32) (y0 : Int32) (H : Heap) (locs : List Loc) (ls : Array Slot), f_X5_come_b49 O K x1 x2 x3 y0 = some (r, O', K') → WH D cI cR A (xws cI cR ad O K) s H locs → lv_has ls 4 [(0, .ref (ad 0)), (1, .int x1), (2, .int x2), (3, .int x3)] → W p l e (headSpec wsX5_come ({ frames := 5, cells := 0, slots := 0, locals := 105 })).room s m ([.ref (ad 0), .int a1, .int a2, .int a3] : List Value).toArray below meth c H locs 0 0 (MQ below (QV (some (.int r)) D A (xws cI cR ad O' K')) (([.ref (ad 0), .int a1, .int a2, .int a3] : List Value)).toArray s 0 0 A) (F0 m 49 ls [.int y0]) := by
    intro O K x1 x2 x3 y0 H locs ls hf hw hl
    unfold f_X5_come_b49 at hf
    obtain ⟨hg, hf⟩ := gdE hf
    refine q_callS (rest := []) (st1 := []) [.int y0] ⟨hx, hb, hml, hown, hts⟩ (c_X5_needState hg) (va_cwS 1 hts gX5_come_X5_needState rfl rfl rfl (by decide +kernel) ⟨Nat.le_of_ble_eq_true rfl, Nat.le_of_ble_eq_true rfl⟩) hw rfl hl.1 rfl (Nat.le_of_ble_eq_true rfl) dX5_come_49 ⟨Nat.zero_le _, Nat.zero_le _⟩ rfl (fun H locs hw => ?_)
    refine lv_aload_n hx hb dX5_come_52 rfl (lv_at hl 0 rfl) ?_
    refine q_get hx hb hts hiX5 hown hw 0 xa_0 rfl 2 (by decide) (hts (.fieldLink RX5 22 "LaceRanks" "history" "LLaceRanks$History;") (by decide +kernel)) rfl dX5_come_53 ?_
    refine lv_aload_n hx hb dX5_come_56 rfl (lv_at hl 0 rfl) ?_
    refine q_get hx hb hts hiX5 hown hw 0 xa_0 rfl 0 (by decide) (hts (.fieldLink RX5 10 "LaceRanks" "now" "LLaceRanks$Carnival;") (by decide +kernel)) rfl dX5_come_57 ?_
    obtain ⟨O1, hr1, hf⟩ := bndS hf
    refine q_callVN (rest := []) (st1 := []) [.ref (ad 1)] ⟨hx, hb, hml, hown, hts⟩ (c_X2_save hr1) ⟨va_cnB 1 hts gX5_come_X2_save_n58 rfl rfl rfl (nw_X5_58 hw.2.2.2.2) (hts (.initialized RX2) (by decide +kernel)) (by decide +kernel) ⟨Nat.le_of_ble_eq_true rfl, Nat.le_of_ble_eq_true rfl⟩, (hts (.instanceMethod yX2_save) (by decide +kernel)), (hts (.selects RX2 yX2_save yX2_save) (by decide +kernel))⟩ hw xa_29 rfl rfl hl.1 rfl (Nat.le_of_ble_eq_true rfl) dX5_come_60 ⟨Nat.zero_le _, Nat.zero_le _⟩ rfl (fun H locs hw => ?_)
    refine lv_aload_n hx hb dX5_come_63 rfl (lv_at hl 0 rfl) ?_
    refine q_get hx hb hts hiX5 hown hw 0 xa_0 rfl 0 (by decide) (hts (.fieldLink RX5 10 "LaceRanks" "now" "LLaceRanks$Carnival;") (by decide +kernel)) rfl dX5_come_64 ?_
    refine lv_iload_n hx hb dX5_come_67 rfl (lv_at hl 1 rfl) ?_
    refine lv_iload_n hx hb dX5_come_68 rfl (lv_at hl 2 rfl) ?_
    refine lv_iload_n hx hb dX5_come_69 rfl (lv_at hl 3 rfl) ?_
    obtain ⟨r2, K3, hr3, hf⟩ := bnd2S hf
    refine q_callVN (rest := []) (st1 := [.int r2]) [.int x1, .int x2, .int x3] ⟨hx, hb, hml, hown, hts⟩ (c_X0_welcome hr3) ⟨va_cnB 3 hts gX5_come_X0_welcome_n62 rfl rfl rfl (nw_X5_62 hw.2.2.2.2) (hts (.initialized RX0) (by decide +kernel)) (by decide +kernel) ⟨Nat.le_of_ble_eq_true rfl, Nat.le_of_ble_eq_true rfl⟩, (hts (.instanceMethod yX0_welcome) (by decide +kernel)), (hts (.selects RX0 yX0_welcome yX0_welcome) (by decide +kernel))⟩ hw xa_1 rfl rfl hl.1 rfl (Nat.le_of_ble_eq_true rfl) dX5_come_70 ⟨Nat.zero_le _, Nat.zero_le _⟩ rfl (fun H locs hw => ?_)
    cases hf
    exact q_iret hx hb hr hlocks hw dX5_come_73
  refine lv_iload_n hx hb dX5_come_0 rfl (lv_at hl 1 rfl) ?_
  refine lv_iconst (v := 0) hx hb dX5_come_1 (by decide) ?_
  refine lv_iconst (v := 4) hx hb dX5_come_2 (by decide) ?_
  obtain ⟨r1, hr1, hf⟩ := bndS hf
  refine q_callS (rest := []) (st1 := [.int r1]) [.int a1, .int 0, .int 4] ⟨hx, hb, hml, hown, hts⟩ (c_X5_isWithin hr1) (va_cwS 3 hts gX5_come_X5_isWithin rfl rfl rfl (by decide +kernel) ⟨Nat.le_of_ble_eq_true rfl, Nat.le_of_ble_eq_true rfl⟩) hw rfl hl.1 rfl (Nat.le_of_ble_eq_true rfl) dX5_come_3 ⟨Nat.zero_le _, Nat.zero_le _⟩ rfl (fun H locs hw => ?_)
  obtain ⟨hg, hf⟩ := gdE hf
  refine q_callS (rest := []) (st1 := []) [.int r1] ⟨hx, hb, hml, hown, hts⟩ (c_X5_needArgument hg) (va_cwS 1 hts gX5_come_X5_needArgument rfl rfl rfl (by decide +kernel) ⟨Nat.le_of_ble_eq_true rfl, Nat.le_of_ble_eq_true rfl⟩) hw rfl hl.1 rfl (Nat.le_of_ble_eq_true rfl) dX5_come_6 ⟨Nat.zero_le _, Nat.zero_le _⟩ rfl (fun H locs hw => ?_)
  refine lv_iload_n hx hb dX5_come_9 rfl (lv_at hl 2 rfl) ?_
  refine lv_iconst (v := 0) hx hb dX5_come_10 (by decide) ?_
  refine lv_bipush (v := 40) hx hb dX5_come_11 (by decide) ?_
  obtain ⟨r2, hr2, hf⟩ := bndS hf
  refine q_callS (rest := []) (st1 := [.int r2]) [.int a2, .int 0, .int 40] ⟨hx, hb, hml, hown, hts⟩ (c_X5_isWithin hr2) (va_cwS 3 hts gX5_come_X5_isWithin rfl rfl rfl (by decide +kernel) ⟨Nat.le_of_ble_eq_true rfl, Nat.le_of_ble_eq_true rfl⟩) hw rfl hl.1 rfl (Nat.le_of_ble_eq_true rfl) dX5_come_13 ⟨Nat.zero_le _, Nat.zero_le _⟩ rfl (fun H locs hw => ?_)
  obtain ⟨hg, hf⟩ := gdE hf
  refine q_callS (rest := []) (st1 := []) [.int r2] ⟨hx, hb, hml, hown, hts⟩ (c_X5_needArgument hg) (va_cwS 1 hts gX5_come_X5_needArgument rfl rfl rfl (by decide +kernel) ⟨Nat.le_of_ble_eq_true rfl, Nat.le_of_ble_eq_true rfl⟩) hw rfl hl.1 rfl (Nat.le_of_ble_eq_true rfl) dX5_come_16 ⟨Nat.zero_le _, Nat.zero_le _⟩ rfl (fun H locs hw => ?_)
  refine lv_iload_n hx hb dX5_come_19 rfl (lv_at hl 3 rfl) ?_
  refine lv_iconst (v := 0) hx hb dX5_come_20 (by decide) ?_
  refine lv_bipush (v := 99) hx hb dX5_come_21 (by decide) ?_
  obtain ⟨r3, hr3, hf⟩ := bndS hf
  refine q_callS (rest := []) (st1 := [.int r3]) [.int a3, .int 0, .int 99] ⟨hx, hb, hml, hown, hts⟩ (c_X5_isWithin hr3) (va_cwS 3 hts gX5_come_X5_isWithin rfl rfl rfl (by decide +kernel) ⟨Nat.le_of_ble_eq_true rfl, Nat.le_of_ble_eq_true rfl⟩) hw rfl hl.1 rfl (Nat.le_of_ble_eq_true rfl) dX5_come_23 ⟨Nat.zero_le _, Nat.zero_le _⟩ rfl (fun H locs hw => ?_)
  obtain ⟨hg, hf⟩ := gdE hf
  refine q_callS (rest := []) (st1 := []) [.int r3] ⟨hx, hb, hml, hown, hts⟩ (c_X5_needArgument hg) (va_cwS 1 hts gX5_come_X5_needArgument rfl rfl rfl (by decide +kernel) ⟨Nat.le_of_ble_eq_true rfl, Nat.le_of_ble_eq_true rfl⟩) hw rfl hl.1 rfl (Nat.le_of_ble_eq_true rfl) dX5_come_26 ⟨Nat.zero_le _, Nat.zero_le _⟩ rfl (fun H locs hw => ?_)
  refine lv_aload_n hx hb dX5_come_29 rfl (lv_at hl 0 rfl) ?_
  refine q_get hx hb hts hiX5 hown hw 0 xa_0 rfl 0 (by decide) (hts (.fieldLink RX5 10 "LaceRanks" "now" "LLaceRanks$Carnival;") (by decide +kernel)) rfl dX5_come_30 ?_
  refine q_getN hx hb hts hiX0 hown hw 1 xa_1 rfl 0 (by decide) (nw_X5_45 hw.2.2.2.2) rfl dX5_come_33 ?_
  refine q_getN hx hb hts hiX1 hown hw 2 xa_2 rfl 8 (by decide) (nw_X5_49 hw.2.2.2.2) rfl dX5_come_36 ?_
  refine lv_bipush (v := 10) hx hb dX5_come_39 (by decide) ?_
  refine lv_icmp_ge (tgt := 48) hx hb dX5_come_41 (by decide) (fun hc => ?_) (fun hc => ?_)
  · have hf := iteT hf hc
    refine lv_iconst (v := 0) hx hb dX5_come_48 (by decide) ?_
    exact B49 O K a1 a2 a3 0 H locs ls hf hw (lv_sub hl [0, 1, 2, 3] rfl)
  · have hf := iteF hf hc
    refine lv_iconst (v := 1) hx hb dX5_come_44 (by decide) ?_
    refine lv_goto (tgt := 49) hx hb dX5_come_45 (by decide) ?_
    exact B49 O K a1 a2 a3 1 H locs ls hf hw (lv_sub hl [0, 1, 2, 3] rfl)

def f_X5_leave (O : XO) (K : RK)  (a1 : Int32) : Option (Int32 × XO × RK) := gd (ndg K a1) (bnd (f_X0_canGo K a1) (fun r1 => gd (ndb r1) (bnd (f_X2_save O K) (fun O2 => bnd2 (f_X0_letGo K a1) (fun r3 K4 => some (r3, O2, K4))))))
set_option maxHeartbeats 4000000 in
set_option maxRecDepth 100000 in
theorem c_X5_leave {l : Launch} {D : va_G} {cI cR : ClassId} {ad : Nat → Nat} {A : Nat → Prop} {O : XO} {K : RK} {O' : XO} {K' : RK} {a1 : Int32} {r : Int32}  (hf : f_X5_leave O K a1 = some (r, O', K')) : MC l yX5_leave wsX5_leave 5 105 D cI cR A [.ref (ad 0), .int a1] (xws cI cR ad O K) (some (.int r)) (xws cI cR ad O' K') := by
  refine Met.ofW (cc := cX5_leave) (maxL := 2) (ret := (some .int)) (by decide) rfl ?_
  intro p e s m args below meth c s₁ B hml hv
  obtain ⟨rfl, hw⟩ := q_start hv
  have hx := B.exec
  have hb := B.bytes
  have hr := B.returns
  have hts := atoms_spec (ws := wsX5_leave) B.pre
  have hown : s.vm.findClass RX5 = some m.cls := findClass_of_methodNamed B.named
  have hlocks := B.notSynchronized
  have hiX5 : ∀ w ∈ wsX50, w ∈ wsX5_leave := by decide +kernel
  have hl := lv_entry ([.ref (ad 0), .int a1]) (n := 2) (Nat.le_of_ble_eq_true rfl)
  rw [lg_entry_eq]
  generalize (lg_sl ([.ref (ad 0), .int a1]) ++ List.replicate (2 - (lg_sl ([.ref (ad 0), .int a1])).length) Slot.unset).toArray = ls at hl ⊢
  have hl : lv_has ls 2 [(0, .ref (ad 0)), (1, .int a1)] := hl
  unfold f_X5_leave at hf
  obtain ⟨H, eH⟩ : ∃ H, H = s.heap := ⟨_, rfl⟩
  obtain ⟨locs, eL⟩ : ∃ L : List Loc, L = [] := ⟨_, rfl⟩
  rw [← eH, ← eL] at hw ⊢
  clear eH eL
  refine lv_aload_n hx hb dX5_leave_0 rfl (lv_at hl 0 rfl) ?_
  refine lv_iload_n hx hb dX5_leave_1 rfl (lv_at hl 1 rfl) ?_
  obtain ⟨hg, hf⟩ := gdE hf
  refine q_callV (rest := []) (st1 := []) [.int a1] ⟨hx, hb, hml, hown, hts⟩ (c_X5_needGuest hg) (cwV 1 hts gX5_leave_X5_needGuest rfl rfl rfl (by decide +kernel) ⟨Nat.le_of_ble_eq_true rfl, Nat.le_of_ble_eq_true rfl⟩) hw xa_0 rfl rfl hl.1 rfl (Nat.le_of_ble_eq_true rfl) dX5_leave_2 ⟨Nat.zero_le _, Nat.zero_le _⟩ rfl (fun H locs hw => ?_)
  refine lv_aload_n hx hb dX5_leave_5 rfl (lv_at hl 0 rfl) ?_
  refine q_get hx hb hts hiX5 hown hw 0 xa_0 rfl 0 (by decide) (hts (.fieldLink RX5 10 "LaceRanks" "now" "LLaceRanks$Carnival;") (by decide +kernel)) rfl dX5_leave_6 ?_
  refine lv_iload_n hx hb dX5_leave_9 rfl (lv_at hl 1 rfl) ?_
  obtain ⟨r1, hr1, hf⟩ := bndS hf
  refine q_callVN (rest := []) (st1 := [.int r1]) [.int a1] ⟨hx, hb, hml, hown, hts⟩ (c_X0_canGo hr1) ⟨va_cnB 1 hts gX5_leave_X0_canGo_n70 rfl rfl rfl (nw_X5_70 hw.2.2.2.2) (hts (.initialized RX0) (by decide +kernel)) (by decide +kernel) ⟨Nat.le_of_ble_eq_true rfl, Nat.le_of_ble_eq_true rfl⟩, (hts (.instanceMethod yX0_canGo) (by decide +kernel)), (hts (.selects RX0 yX0_canGo yX0_canGo) (by decide +kernel))⟩ hw xa_1 rfl rfl hl.1 rfl (Nat.le_of_ble_eq_true rfl) dX5_leave_10 ⟨Nat.zero_le _, Nat.zero_le _⟩ rfl (fun H locs hw => ?_)
  obtain ⟨hg, hf⟩ := gdE hf
  refine q_callS (rest := []) (st1 := []) [.int r1] ⟨hx, hb, hml, hown, hts⟩ (c_X5_needState hg) (va_cwS 1 hts gX5_leave_X5_needState rfl rfl rfl (by decide +kernel) ⟨Nat.le_of_ble_eq_true rfl, Nat.le_of_ble_eq_true rfl⟩) hw rfl hl.1 rfl (Nat.le_of_ble_eq_true rfl) dX5_leave_13 ⟨Nat.zero_le _, Nat.zero_le _⟩ rfl (fun H locs hw => ?_)
  refine lv_aload_n hx hb dX5_leave_16 rfl (lv_at hl 0 rfl) ?_
  refine q_get hx hb hts hiX5 hown hw 0 xa_0 rfl 2 (by decide) (hts (.fieldLink RX5 22 "LaceRanks" "history" "LLaceRanks$History;") (by decide +kernel)) rfl dX5_leave_17 ?_
  refine lv_aload_n hx hb dX5_leave_20 rfl (lv_at hl 0 rfl) ?_
  refine q_get hx hb hts hiX5 hown hw 0 xa_0 rfl 0 (by decide) (hts (.fieldLink RX5 10 "LaceRanks" "now" "LLaceRanks$Carnival;") (by decide +kernel)) rfl dX5_leave_21 ?_
  obtain ⟨O2, hr2, hf⟩ := bndS hf
  refine q_callVN (rest := []) (st1 := []) [.ref (ad 1)] ⟨hx, hb, hml, hown, hts⟩ (c_X2_save hr2) ⟨va_cnB 1 hts gX5_leave_X2_save_n58 rfl rfl rfl (nw_X5_58 hw.2.2.2.2) (hts (.initialized RX2) (by decide +kernel)) (by decide +kernel) ⟨Nat.le_of_ble_eq_true rfl, Nat.le_of_ble_eq_true rfl⟩, (hts (.instanceMethod yX2_save) (by decide +kernel)), (hts (.selects RX2 yX2_save yX2_save) (by decide +kernel))⟩ hw xa_29 rfl rfl hl.1 rfl (Nat.le_of_ble_eq_true rfl) dX5_leave_24 ⟨Nat.zero_le _, Nat.zero_le _⟩ rfl (fun H locs hw => ?_)
  refine lv_aload_n hx hb dX5_leave_27 rfl (lv_at hl 0 rfl) ?_
  refine q_get hx hb hts hiX5 hown hw 0 xa_0 rfl 0 (by decide) (hts (.fieldLink RX5 10 "LaceRanks" "now" "LLaceRanks$Carnival;") (by decide +kernel)) rfl dX5_leave_28 ?_
  refine lv_iload_n hx hb dX5_leave_31 rfl (lv_at hl 1 rfl) ?_
  obtain ⟨r3, K4, hr4, hf⟩ := bnd2S hf
  refine q_callVN (rest := []) (st1 := [.int r3]) [.int a1] ⟨hx, hb, hml, hown, hts⟩ (c_X0_letGo hr4) ⟨va_cnB 1 hts gX5_leave_X0_letGo_n74 rfl rfl rfl (nw_X5_74 hw.2.2.2.2) (hts (.initialized RX0) (by decide +kernel)) (by decide +kernel) ⟨Nat.le_of_ble_eq_true rfl, Nat.le_of_ble_eq_true rfl⟩, (hts (.instanceMethod yX0_letGo) (by decide +kernel)), (hts (.selects RX0 yX0_letGo yX0_letGo) (by decide +kernel))⟩ hw xa_1 rfl rfl hl.1 rfl (Nat.le_of_ble_eq_true rfl) dX5_leave_32 ⟨Nat.zero_le _, Nat.zero_le _⟩ rfl (fun H locs hw => ?_)
  cases hf
  exact q_iret hx hb hr hlocks hw dX5_leave_35

def f_X5_earn (O : XO) (K : RK)  (a1 : Int32) (a2 : Int32) : Option (Int32 × XO × RK) := gd (ndg K a1) (bnd (f_X5_isWithin a2 1 99) (fun r1 => gd (ndb r1) (bnd (f_X2_save O K) (fun O2 => bnd2 (f_X0_giveWages K a1 a2) (fun r3 K4 => some (r3, O2, K4))))))
set_option maxHeartbeats 4000000 in
set_option maxRecDepth 100000 in
theorem c_X5_earn {l : Launch} {D : va_G} {cI cR : ClassId} {ad : Nat → Nat} {A : Nat → Prop} {O : XO} {K : RK} {O' : XO} {K' : RK} {a1 : Int32} {a2 : Int32} {r : Int32}  (hf : f_X5_earn O K a1 a2 = some (r, O', K')) : MC l yX5_earn wsX5_earn 5 105 D cI cR A [.ref (ad 0), .int a1, .int a2] (xws cI cR ad O K) (some (.int r)) (xws cI cR ad O' K') := by
  refine Met.ofW (cc := cX5_earn) (maxL := 3) (ret := (some .int)) (by decide) rfl ?_
  intro p e s m args below meth c s₁ B hml hv
  obtain ⟨rfl, hw⟩ := q_start hv
  have hx := B.exec
  have hb := B.bytes
  have hr := B.returns
  have hts := atoms_spec (ws := wsX5_earn) B.pre
  have hown : s.vm.findClass RX5 = some m.cls := findClass_of_methodNamed B.named
  have hlocks := B.notSynchronized
  have hiX5 : ∀ w ∈ wsX50, w ∈ wsX5_earn := by decide +kernel
  have hl := lv_entry ([.ref (ad 0), .int a1, .int a2]) (n := 3) (Nat.le_of_ble_eq_true rfl)
  rw [lg_entry_eq]
  generalize (lg_sl ([.ref (ad 0), .int a1, .int a2]) ++ List.replicate (3 - (lg_sl ([.ref (ad 0), .int a1, .int a2])).length) Slot.unset).toArray = ls at hl ⊢
  have hl : lv_has ls 3 [(0, .ref (ad 0)), (1, .int a1), (2, .int a2)] := hl
  unfold f_X5_earn at hf
  obtain ⟨H, eH⟩ : ∃ H, H = s.heap := ⟨_, rfl⟩
  obtain ⟨locs, eL⟩ : ∃ L : List Loc, L = [] := ⟨_, rfl⟩
  rw [← eH, ← eL] at hw ⊢
  clear eH eL
  refine lv_aload_n hx hb dX5_earn_0 rfl (lv_at hl 0 rfl) ?_
  refine lv_iload_n hx hb dX5_earn_1 rfl (lv_at hl 1 rfl) ?_
  obtain ⟨hg, hf⟩ := gdE hf
  refine q_callV (rest := []) (st1 := []) [.int a1] ⟨hx, hb, hml, hown, hts⟩ (c_X5_needGuest hg) (cwV 1 hts gX5_earn_X5_needGuest rfl rfl rfl (by decide +kernel) ⟨Nat.le_of_ble_eq_true rfl, Nat.le_of_ble_eq_true rfl⟩) hw xa_0 rfl rfl hl.1 rfl (Nat.le_of_ble_eq_true rfl) dX5_earn_2 ⟨Nat.zero_le _, Nat.zero_le _⟩ rfl (fun H locs hw => ?_)
  refine lv_iload_n hx hb dX5_earn_5 rfl (lv_at hl 2 rfl) ?_
  refine lv_iconst (v := 1) hx hb dX5_earn_6 (by decide) ?_
  refine lv_bipush (v := 99) hx hb dX5_earn_7 (by decide) ?_
  obtain ⟨r1, hr1, hf⟩ := bndS hf
  refine q_callS (rest := []) (st1 := [.int r1]) [.int a2, .int 1, .int 99] ⟨hx, hb, hml, hown, hts⟩ (c_X5_isWithin hr1) (va_cwS 3 hts gX5_earn_X5_isWithin rfl rfl rfl (by decide +kernel) ⟨Nat.le_of_ble_eq_true rfl, Nat.le_of_ble_eq_true rfl⟩) hw rfl hl.1 rfl (Nat.le_of_ble_eq_true rfl) dX5_earn_9 ⟨Nat.zero_le _, Nat.zero_le _⟩ rfl (fun H locs hw => ?_)
  obtain ⟨hg, hf⟩ := gdE hf
  refine q_callS (rest := []) (st1 := []) [.int r1] ⟨hx, hb, hml, hown, hts⟩ (c_X5_needArgument hg) (va_cwS 1 hts gX5_earn_X5_needArgument rfl rfl rfl (by decide +kernel) ⟨Nat.le_of_ble_eq_true rfl, Nat.le_of_ble_eq_true rfl⟩) hw rfl hl.1 rfl (Nat.le_of_ble_eq_true rfl) dX5_earn_12 ⟨Nat.zero_le _, Nat.zero_le _⟩ rfl (fun H locs hw => ?_)
  refine lv_aload_n hx hb dX5_earn_15 rfl (lv_at hl 0 rfl) ?_
  refine q_get hx hb hts hiX5 hown hw 0 xa_0 rfl 2 (by decide) (hts (.fieldLink RX5 22 "LaceRanks" "history" "LLaceRanks$History;") (by decide +kernel)) rfl dX5_earn_16 ?_
  refine lv_aload_n hx hb dX5_earn_19 rfl (lv_at hl 0 rfl) ?_
  refine q_get hx hb hts hiX5 hown hw 0 xa_0 rfl 0 (by decide) (hts (.fieldLink RX5 10 "LaceRanks" "now" "LLaceRanks$Carnival;") (by decide +kernel)) rfl dX5_earn_20 ?_
  obtain ⟨O2, hr2, hf⟩ := bndS hf
  refine q_callVN (rest := []) (st1 := []) [.ref (ad 1)] ⟨hx, hb, hml, hown, hts⟩ (c_X2_save hr2) ⟨va_cnB 1 hts gX5_earn_X2_save_n58 rfl rfl rfl (nw_X5_58 hw.2.2.2.2) (hts (.initialized RX2) (by decide +kernel)) (by decide +kernel) ⟨Nat.le_of_ble_eq_true rfl, Nat.le_of_ble_eq_true rfl⟩, (hts (.instanceMethod yX2_save) (by decide +kernel)), (hts (.selects RX2 yX2_save yX2_save) (by decide +kernel))⟩ hw xa_29 rfl rfl hl.1 rfl (Nat.le_of_ble_eq_true rfl) dX5_earn_23 ⟨Nat.zero_le _, Nat.zero_le _⟩ rfl (fun H locs hw => ?_)
  refine lv_aload_n hx hb dX5_earn_26 rfl (lv_at hl 0 rfl) ?_
  refine q_get hx hb hts hiX5 hown hw 0 xa_0 rfl 0 (by decide) (hts (.fieldLink RX5 10 "LaceRanks" "now" "LLaceRanks$Carnival;") (by decide +kernel)) rfl dX5_earn_27 ?_
  refine lv_iload_n hx hb dX5_earn_30 rfl (lv_at hl 1 rfl) ?_
  refine lv_iload_n hx hb dX5_earn_31 rfl (lv_at hl 2 rfl) ?_
  obtain ⟨r3, K4, hr4, hf⟩ := bnd2S hf
  refine q_callVN (rest := []) (st1 := [.int r3]) [.int a1, .int a2] ⟨hx, hb, hml, hown, hts⟩ (c_X0_giveWages hr4) ⟨va_cnB 2 hts gX5_earn_X0_giveWages_n78 rfl rfl rfl (nw_X5_78 hw.2.2.2.2) (hts (.initialized RX0) (by decide +kernel)) (by decide +kernel) ⟨Nat.le_of_ble_eq_true rfl, Nat.le_of_ble_eq_true rfl⟩, (hts (.instanceMethod yX0_giveWages) (by decide +kernel)), (hts (.selects RX0 yX0_giveWages yX0_giveWages) (by decide +kernel))⟩ hw xa_1 rfl rfl hl.1 rfl (Nat.le_of_ble_eq_true rfl) dX5_earn_32 ⟨Nat.zero_le _, Nat.zero_le _⟩ rfl (fun H locs hw => ?_)
  cases hf
  exact q_iret hx hb hr hlocks hw dX5_earn_35

def f_X5_lend_b30    (O : XO) (K : RK) (x1 : Int32) (x2 : Int32) (y0 : Int32) : Option (Int32 × XO × RK) := gd (ndb y0) (bnd (f_X2_save O K) (fun O1 => bnd (f_X1_lendCoat K x1 x2) (fun K2 => nm (at_ 10 (K2 3) x1) (fun r3 => some (r3, O1, K2)))))
def f_X5_lend (O : XO) (K : RK)  (a1 : Int32) (a2 : Int32) : Option (Int32 × XO × RK) := gd (ndg K a1) (gd (ndg K a2) (bnd (f_X1_reasonNoLoan K a1 a2) (fun r1 => (if r1 = 0 then f_X5_lend_b30 O K a1 a2 1 else f_X5_lend_b30 O K a1 a2 0))))
set_option maxHeartbeats 4000000 in
set_option maxRecDepth 100000 in
theorem c_X5_lend {l : Launch} {D : va_G} {cI cR : ClassId} {ad : Nat → Nat} {A : Nat → Prop} {O : XO} {K : RK} {O' : XO} {K' : RK} {a1 : Int32} {a2 : Int32} {r : Int32}  (hf : f_X5_lend O K a1 a2 = some (r, O', K')) : MC l yX5_lend wsX5_lend 5 105 D cI cR A [.ref (ad 0), .int a1, .int a2] (xws cI cR ad O K) (some (.int r)) (xws cI cR ad O' K') := by
  refine Met.ofW (cc := cX5_lend) (maxL := 3) (ret := (some .int)) (by decide) rfl ?_
  intro p e s m args below meth c s₁ B hml hv
  obtain ⟨rfl, hw⟩ := q_start hv
  have hx := B.exec
  have hb := B.bytes
  have hr := B.returns
  have hts := atoms_spec (ws := wsX5_lend) B.pre
  have hown : s.vm.findClass RX5 = some m.cls := findClass_of_methodNamed B.named
  have hlocks := B.notSynchronized
  have hiX0 : ∀ w ∈ wsX00, w ∈ wsX5_lend := by decide +kernel
  have hiX1 : ∀ w ∈ wsX10, w ∈ wsX5_lend := by decide +kernel
  have hiX5 : ∀ w ∈ wsX50, w ∈ wsX5_lend := by decide +kernel
  have hl := lv_entry ([.ref (ad 0), .int a1, .int a2]) (n := 3) (Nat.le_of_ble_eq_true rfl)
  rw [lg_entry_eq]
  generalize (lg_sl ([.ref (ad 0), .int a1, .int a2]) ++ List.replicate (3 - (lg_sl ([.ref (ad 0), .int a1, .int a2])).length) Slot.unset).toArray = ls at hl ⊢
  have hl : lv_has ls 3 [(0, .ref (ad 0)), (1, .int a1), (2, .int a2)] := hl
  unfold f_X5_lend at hf
  obtain ⟨H, eH⟩ : ∃ H, H = s.heap := ⟨_, rfl⟩
  obtain ⟨locs, eL⟩ : ∃ L : List Loc, L = [] := ⟨_, rfl⟩
  rw [← eH, ← eL] at hw ⊢
  clear eH eL
  have B30 : ∀ (O : XO) (K : RK) (x1 : Int32) (x2 : Int32) (y0 : Int32) (H : Heap) (locs : List Loc) (ls : Array Slot), f_X5_lend_b30 O K x1 x2 y0 = some (r, O', K') → WH D cI cR A (xws cI cR ad O K) s H locs → lv_has ls 3 [(0, .ref (ad 0)), (1, .int x1), (2, .int x2)] → W p l e (headSpec wsX5_lend ({ frames := 5, cells := 0, slots := 0, locals := 105 })).room s m ([.ref (ad 0), .int a1, .int a2] : List Value).toArray below meth c H locs 0 0 (MQ below (QV (some (.int r)) D A (xws cI cR ad O' K')) (([.ref (ad 0), .int a1, .int a2] : List Value)).toArray s 0 0 A) (F0 m 30 ls [.int y0]) := by
    intro O K x1 x2 y0 H locs ls hf hw hl
    unfold f_X5_lend_b30 at hf
    obtain ⟨hg, hf⟩ := gdE hf
    refine q_callS (rest := []) (st1 := []) [.int y0] ⟨hx, hb, hml, hown, hts⟩ (c_X5_needState hg) (va_cwS 1 hts gX5_lend_X5_needState rfl rfl rfl (by decide +kernel) ⟨Nat.le_of_ble_eq_true rfl, Nat.le_of_ble_eq_true rfl⟩) hw rfl hl.1 rfl (Nat.le_of_ble_eq_true rfl) dX5_lend_30 ⟨Nat.zero_le _, Nat.zero_le _⟩ rfl (fun H locs hw => ?_)
    refine lv_aload_n hx hb dX5_lend_33 rfl (lv_at hl 0 rfl) ?_
    refine q_get hx hb hts hiX5 hown hw 0 xa_0 rfl 2 (by decide) (hts (.fieldLink RX5 22 "LaceRanks" "history" "LLaceRanks$History;") (by decide +kernel)) rfl dX5_lend_34 ?_
    refine lv_aload_n hx hb dX5_lend_37 rfl (lv_at hl 0 rfl) ?_
    refine q_get hx hb hts hiX5 hown hw 0 xa_0 rfl 0 (by decide) (hts (.fieldLink RX5 10 "LaceRanks" "now" "LLaceRanks$Carnival;") (by decide +kernel)) rfl dX5_lend_38 ?_
    obtain ⟨O1, hr1, hf⟩ := bndS hf
    refine q_callVN (rest := []) (st1 := []) [.ref (ad 1)] ⟨hx, hb, hml, hown, hts⟩ (c_X2_save hr1) ⟨va_cnB 1 hts gX5_lend_X2_save_n58 rfl rfl rfl (nw_X5_58 hw.2.2.2.2) (hts (.initialized RX2) (by decide +kernel)) (by decide +kernel) ⟨Nat.le_of_ble_eq_true rfl, Nat.le_of_ble_eq_true rfl⟩, (hts (.instanceMethod yX2_save) (by decide +kernel)), (hts (.selects RX2 yX2_save yX2_save) (by decide +kernel))⟩ hw xa_29 rfl rfl hl.1 rfl (Nat.le_of_ble_eq_true rfl) dX5_lend_41 ⟨Nat.zero_le _, Nat.zero_le _⟩ rfl (fun H locs hw => ?_)
    refine lv_aload_n hx hb dX5_lend_44 rfl (lv_at hl 0 rfl) ?_
    refine q_get hx hb hts hiX5 hown hw 0 xa_0 rfl 0 (by decide) (hts (.fieldLink RX5 10 "LaceRanks" "now" "LLaceRanks$Carnival;") (by decide +kernel)) rfl dX5_lend_45 ?_
    refine q_getN hx hb hts hiX0 hown hw 1 xa_1 rfl 0 (by decide) (nw_X5_45 hw.2.2.2.2) rfl dX5_lend_48 ?_
    refine lv_iload_n hx hb dX5_lend_51 rfl (lv_at hl 1 rfl) ?_
    refine lv_iload_n hx hb dX5_lend_52 rfl (lv_at hl 2 rfl) ?_
    obtain ⟨K2, hr2, hf⟩ := bndS hf
    refine q_callVN (rest := []) (st1 := []) [.int x1, .int x2] ⟨hx, hb, hml, hown, hts⟩ (c_X1_lendCoat hr2) ⟨va_cnB 2 hts gX5_lend_X1_lendCoat_n85 rfl rfl rfl (nw_X5_85 hw.2.2.2.2) (hts (.initialized RX1) (by decide +kernel)) (by decide +kernel) ⟨Nat.le_of_ble_eq_true rfl, Nat.le_of_ble_eq_true rfl⟩, (hts (.instanceMethod yX1_lendCoat) (by decide +kernel)), (hts (.selects RX1 yX1_lendCoat yX1_lendCoat) (by decide +kernel))⟩ hw xa_2 rfl rfl hl.1 rfl (Nat.le_of_ble_eq_true rfl) dX5_lend_53 ⟨Nat.zero_le _, Nat.zero_le _⟩ rfl (fun H locs hw => ?_)
    refine lv_aload_n hx hb dX5_lend_56 rfl (lv_at hl 0 rfl) ?_
    refine q_get hx hb hts hiX5 hown hw 0 xa_0 rfl 0 (by decide) (hts (.fieldLink RX5 10 "LaceRanks" "now" "LLaceRanks$Carnival;") (by decide +kernel)) rfl dX5_lend_57 ?_
    refine q_getN hx hb hts hiX0 hown hw 1 xa_1 rfl 0 (by decide) (nw_X5_45 hw.2.2.2.2) rfl dX5_lend_60 ?_
    refine q_getN hx hb hts hiX1 hown hw 2 xa_2 rfl 3 (by decide) (nw_X5_89 hw.2.2.2.2) rfl dX5_lend_63 ?_
    refine lv_iload_n hx hb dX5_lend_66 rfl (lv_at hl 1 rfl) ?_
    obtain ⟨r3, hr3, hf⟩ := nmE hf
    refine q_callS (rest := []) (st1 := [.int r3]) [.ref (ad 6), .int x1] ⟨hx, hb, hml, hown, hts⟩ (c_X5_at (q0 := 6) xa_6 hr3) (va_cwS 2 hts gX5_lend_X5_at rfl rfl rfl (by decide +kernel) ⟨Nat.le_of_ble_eq_true rfl, Nat.le_of_ble_eq_true rfl⟩) hw rfl hl.1 rfl (Nat.le_of_ble_eq_true rfl) dX5_lend_67 ⟨Nat.zero_le _, Nat.zero_le _⟩ rfl (fun H locs hw => ?_)
    cases hf
    exact q_iret hx hb hr hlocks hw dX5_lend_70
  refine lv_aload_n hx hb dX5_lend_0 rfl (lv_at hl 0 rfl) ?_
  refine lv_iload_n hx hb dX5_lend_1 rfl (lv_at hl 1 rfl) ?_
  obtain ⟨hg, hf⟩ := gdE hf
  refine q_callV (rest := []) (st1 := []) [.int a1] ⟨hx, hb, hml, hown, hts⟩ (c_X5_needGuest hg) (cwV 1 hts gX5_lend_X5_needGuest rfl rfl rfl (by decide +kernel) ⟨Nat.le_of_ble_eq_true rfl, Nat.le_of_ble_eq_true rfl⟩) hw xa_0 rfl rfl hl.1 rfl (Nat.le_of_ble_eq_true rfl) dX5_lend_2 ⟨Nat.zero_le _, Nat.zero_le _⟩ rfl (fun H locs hw => ?_)
  refine lv_aload_n hx hb dX5_lend_5 rfl (lv_at hl 0 rfl) ?_
  refine lv_iload_n hx hb dX5_lend_6 rfl (lv_at hl 2 rfl) ?_
  obtain ⟨hg, hf⟩ := gdE hf
  refine q_callV (rest := []) (st1 := []) [.int a2] ⟨hx, hb, hml, hown, hts⟩ (c_X5_needGuest hg) (cwV 1 hts gX5_lend_X5_needGuest rfl rfl rfl (by decide +kernel) ⟨Nat.le_of_ble_eq_true rfl, Nat.le_of_ble_eq_true rfl⟩) hw xa_0 rfl rfl hl.1 rfl (Nat.le_of_ble_eq_true rfl) dX5_lend_7 ⟨Nat.zero_le _, Nat.zero_le _⟩ rfl (fun H locs hw => ?_)
  refine lv_aload_n hx hb dX5_lend_10 rfl (lv_at hl 0 rfl) ?_
  refine q_get hx hb hts hiX5 hown hw 0 xa_0 rfl 0 (by decide) (hts (.fieldLink RX5 10 "LaceRanks" "now" "LLaceRanks$Carnival;") (by decide +kernel)) rfl dX5_lend_11 ?_
  refine q_getN hx hb hts hiX0 hown hw 1 xa_1 rfl 0 (by decide) (nw_X5_45 hw.2.2.2.2) rfl dX5_lend_14 ?_
  refine lv_iload_n hx hb dX5_lend_17 rfl (lv_at hl 1 rfl) ?_
  refine lv_iload_n hx hb dX5_lend_18 rfl (lv_at hl 2 rfl) ?_
  obtain ⟨r1, hr1, hf⟩ := bndS hf
  refine q_callVN (rest := []) (st1 := [.int r1]) [.int a1, .int a2] ⟨hx, hb, hml, hown, hts⟩ (c_X1_reasonNoLoan hr1) ⟨va_cnB 2 hts gX5_lend_X1_reasonNoLoan_n82 rfl rfl rfl (nw_X5_82 hw.2.2.2.2) (hts (.initialized RX1) (by decide +kernel)) (by decide +kernel) ⟨Nat.le_of_ble_eq_true rfl, Nat.le_of_ble_eq_true rfl⟩, (hts (.instanceMethod yX1_reasonNoLoan) (by decide +kernel)), (hts (.selects RX1 yX1_reasonNoLoan yX1_reasonNoLoan) (by decide +kernel))⟩ hw xa_2 rfl rfl hl.1 rfl (Nat.le_of_ble_eq_true rfl) dX5_lend_19 ⟨Nat.zero_le _, Nat.zero_le _⟩ rfl (fun H locs hw => ?_)
  refine lv_if_ne (tgt := 29) hx hb dX5_lend_22 (by decide) (fun hc => ?_) (fun hc => ?_)
  · have hf := iteF hf hc
    refine lv_iconst (v := 0) hx hb dX5_lend_29 (by decide) ?_
    exact B30 O K a1 a2 0 H locs ls hf hw (lv_sub hl [0, 1, 2] rfl)
  · have hf := iteT hf hc
    refine lv_iconst (v := 1) hx hb dX5_lend_25 (by decide) ?_
    refine lv_goto (tgt := 30) hx hb dX5_lend_26 (by decide) ?_
    exact B30 O K a1 a2 1 H locs ls hf hw (lv_sub hl [0, 1, 2] rfl)

def f_X5_giveBack (O : XO) (K : RK)  (a1 : Int32) : Option (Int32 × XO × RK) := gd (ndg K a1) (bnd (f_X1_canReturnCoat K a1) (fun r1 => gd (ndb r1) (bnd (f_X2_save O K) (fun O2 => bnd2 (f_X1_returnCoat K a1) (fun r3 K4 => some (r3, O2, K4))))))
set_option maxHeartbeats 4000000 in
set_option maxRecDepth 100000 in
theorem c_X5_giveBack {l : Launch} {D : va_G} {cI cR : ClassId} {ad : Nat → Nat} {A : Nat → Prop} {O : XO} {K : RK} {O' : XO} {K' : RK} {a1 : Int32} {r : Int32}  (hf : f_X5_giveBack O K a1 = some (r, O', K')) : MC l yX5_giveBack wsX5_giveBack 5 105 D cI cR A [.ref (ad 0), .int a1] (xws cI cR ad O K) (some (.int r)) (xws cI cR ad O' K') := by
  refine Met.ofW (cc := cX5_giveBack) (maxL := 2) (ret := (some .int)) (by decide) rfl ?_
  intro p e s m args below meth c s₁ B hml hv
  obtain ⟨rfl, hw⟩ := q_start hv
  have hx := B.exec
  have hb := B.bytes
  have hr := B.returns
  have hts := atoms_spec (ws := wsX5_giveBack) B.pre
  have hown : s.vm.findClass RX5 = some m.cls := findClass_of_methodNamed B.named
  have hlocks := B.notSynchronized
  have hiX0 : ∀ w ∈ wsX00, w ∈ wsX5_giveBack := by decide +kernel
  have hiX5 : ∀ w ∈ wsX50, w ∈ wsX5_giveBack := by decide +kernel
  have hl := lv_entry ([.ref (ad 0), .int a1]) (n := 2) (Nat.le_of_ble_eq_true rfl)
  rw [lg_entry_eq]
  generalize (lg_sl ([.ref (ad 0), .int a1]) ++ List.replicate (2 - (lg_sl ([.ref (ad 0), .int a1])).length) Slot.unset).toArray = ls at hl ⊢
  have hl : lv_has ls 2 [(0, .ref (ad 0)), (1, .int a1)] := hl
  unfold f_X5_giveBack at hf
  obtain ⟨H, eH⟩ : ∃ H, H = s.heap := ⟨_, rfl⟩
  obtain ⟨locs, eL⟩ : ∃ L : List Loc, L = [] := ⟨_, rfl⟩
  rw [← eH, ← eL] at hw ⊢
  clear eH eL
  refine lv_aload_n hx hb dX5_giveBack_0 rfl (lv_at hl 0 rfl) ?_
  refine lv_iload_n hx hb dX5_giveBack_1 rfl (lv_at hl 1 rfl) ?_
  obtain ⟨hg, hf⟩ := gdE hf
  refine q_callV (rest := []) (st1 := []) [.int a1] ⟨hx, hb, hml, hown, hts⟩ (c_X5_needGuest hg) (cwV 1 hts gX5_giveBack_X5_needGuest rfl rfl rfl (by decide +kernel) ⟨Nat.le_of_ble_eq_true rfl, Nat.le_of_ble_eq_true rfl⟩) hw xa_0 rfl rfl hl.1 rfl (Nat.le_of_ble_eq_true rfl) dX5_giveBack_2 ⟨Nat.zero_le _, Nat.zero_le _⟩ rfl (fun H locs hw => ?_)
  refine lv_aload_n hx hb dX5_giveBack_5 rfl (lv_at hl 0 rfl) ?_
  refine q_get hx hb hts hiX5 hown hw 0 xa_0 rfl 0 (by decide) (hts (.fieldLink RX5 10 "LaceRanks" "now" "LLaceRanks$Carnival;") (by decide +kernel)) rfl dX5_giveBack_6 ?_
  refine q_getN hx hb hts hiX0 hown hw 1 xa_1 rfl 0 (by decide) (nw_X5_45 hw.2.2.2.2) rfl dX5_giveBack_9 ?_
  refine lv_iload_n hx hb dX5_giveBack_12 rfl (lv_at hl 1 rfl) ?_
  obtain ⟨r1, hr1, hf⟩ := bndS hf
  refine q_callVN (rest := []) (st1 := [.int r1]) [.int a1] ⟨hx, hb, hml, hown, hts⟩ (c_X1_canReturnCoat hr1) ⟨va_cnB 1 hts gX5_giveBack_X1_canReturnCoat_n97 rfl rfl rfl (nw_X5_97 hw.2.2.2.2) (hts (.initialized RX1) (by decide +kernel)) (by decide +kernel) ⟨Nat.le_of_ble_eq_true rfl, Nat.le_of_ble_eq_true rfl⟩, (hts (.instanceMethod yX1_canReturnCoat) (by decide +kernel)), (hts (.selects RX1 yX1_canReturnCoat yX1_canReturnCoat) (by decide +kernel))⟩ hw xa_2 rfl rfl hl.1 rfl (Nat.le_of_ble_eq_true rfl) dX5_giveBack_13 ⟨Nat.zero_le _, Nat.zero_le _⟩ rfl (fun H locs hw => ?_)
  obtain ⟨hg, hf⟩ := gdE hf
  refine q_callS (rest := []) (st1 := []) [.int r1] ⟨hx, hb, hml, hown, hts⟩ (c_X5_needState hg) (va_cwS 1 hts gX5_giveBack_X5_needState rfl rfl rfl (by decide +kernel) ⟨Nat.le_of_ble_eq_true rfl, Nat.le_of_ble_eq_true rfl⟩) hw rfl hl.1 rfl (Nat.le_of_ble_eq_true rfl) dX5_giveBack_16 ⟨Nat.zero_le _, Nat.zero_le _⟩ rfl (fun H locs hw => ?_)
  refine lv_aload_n hx hb dX5_giveBack_19 rfl (lv_at hl 0 rfl) ?_
  refine q_get hx hb hts hiX5 hown hw 0 xa_0 rfl 2 (by decide) (hts (.fieldLink RX5 22 "LaceRanks" "history" "LLaceRanks$History;") (by decide +kernel)) rfl dX5_giveBack_20 ?_
  refine lv_aload_n hx hb dX5_giveBack_23 rfl (lv_at hl 0 rfl) ?_
  refine q_get hx hb hts hiX5 hown hw 0 xa_0 rfl 0 (by decide) (hts (.fieldLink RX5 10 "LaceRanks" "now" "LLaceRanks$Carnival;") (by decide +kernel)) rfl dX5_giveBack_24 ?_
  obtain ⟨O2, hr2, hf⟩ := bndS hf
  refine q_callVN (rest := []) (st1 := []) [.ref (ad 1)] ⟨hx, hb, hml, hown, hts⟩ (c_X2_save hr2) ⟨va_cnB 1 hts gX5_giveBack_X2_save_n58 rfl rfl rfl (nw_X5_58 hw.2.2.2.2) (hts (.initialized RX2) (by decide +kernel)) (by decide +kernel) ⟨Nat.le_of_ble_eq_true rfl, Nat.le_of_ble_eq_true rfl⟩, (hts (.instanceMethod yX2_save) (by decide +kernel)), (hts (.selects RX2 yX2_save yX2_save) (by decide +kernel))⟩ hw xa_29 rfl rfl hl.1 rfl (Nat.le_of_ble_eq_true rfl) dX5_giveBack_27 ⟨Nat.zero_le _, Nat.zero_le _⟩ rfl (fun H locs hw => ?_)
  refine lv_aload_n hx hb dX5_giveBack_30 rfl (lv_at hl 0 rfl) ?_
  refine q_get hx hb hts hiX5 hown hw 0 xa_0 rfl 0 (by decide) (hts (.fieldLink RX5 10 "LaceRanks" "now" "LLaceRanks$Carnival;") (by decide +kernel)) rfl dX5_giveBack_31 ?_
  refine q_getN hx hb hts hiX0 hown hw 1 xa_1 rfl 0 (by decide) (nw_X5_45 hw.2.2.2.2) rfl dX5_giveBack_34 ?_
  refine lv_iload_n hx hb dX5_giveBack_37 rfl (lv_at hl 1 rfl) ?_
  obtain ⟨r3, K4, hr4, hf⟩ := bnd2S hf
  refine q_callVN (rest := []) (st1 := [.int r3]) [.int a1] ⟨hx, hb, hml, hown, hts⟩ (c_X1_returnCoat hr4) ⟨va_cnB 1 hts gX5_giveBack_X1_returnCoat_n100 rfl rfl rfl (nw_X5_100 hw.2.2.2.2) (hts (.initialized RX1) (by decide +kernel)) (by decide +kernel) ⟨Nat.le_of_ble_eq_true rfl, Nat.le_of_ble_eq_true rfl⟩, (hts (.instanceMethod yX1_returnCoat) (by decide +kernel)), (hts (.selects RX1 yX1_returnCoat yX1_returnCoat) (by decide +kernel))⟩ hw xa_2 rfl rfl hl.1 rfl (Nat.le_of_ble_eq_true rfl) dX5_giveBack_38 ⟨Nat.zero_le _, Nat.zero_le _⟩ rfl (fun H locs hw => ?_)
  cases hf
  exact q_iret hx hb hr hlocks hw dX5_giveBack_41

def f_X5_mask_b21    (O : XO) (K : RK) (x1 : Int32) (y0 : Int32) : Option (Int32 × XO × RK) := gd (ndb y0) (bnd (f_X2_save O K) (fun O1 => bnd (f_X0_takeMask K x1) (fun K2 => nm (at_ 10 (K2 1) x1) (fun r3 => some (r3, O1, K2)))))
def f_X5_mask (O : XO) (K : RK)  (a1 : Int32) : Option (Int32 × XO × RK) := gd (ndg K a1) (bnd (f_X0_reasonNoMask K a1) (fun r1 => (if r1 = 0 then f_X5_mask_b21 O K a1 1 else f_X5_mask_b21 O K a1 0)))
set_option maxHeartbeats 4000000 in
set_option maxRecDepth 100000 in
theorem c_X5_mask {l : Launch} {D : va_G} {cI cR : ClassId} {ad : Nat → Nat} {A : Nat → Prop} {O : XO} {K : RK} {O' : XO} {K' : RK} {a1 : Int32} {r : Int32}  (hf : f_X5_mask O K a1 = some (r, O', K')) : MC l yX5_mask wsX5_mask 5 105 D cI cR A [.ref (ad 0), .int a1] (xws cI cR ad O K) (some (.int r)) (xws cI cR ad O' K') := by
  refine Met.ofW (cc := cX5_mask) (maxL := 2) (ret := (some .int)) (by decide) rfl ?_
  intro p e s m args below meth c s₁ B hml hv
  obtain ⟨rfl, hw⟩ := q_start hv
  have hx := B.exec
  have hb := B.bytes
  have hr := B.returns
  have hts := atoms_spec (ws := wsX5_mask) B.pre
  have hown : s.vm.findClass RX5 = some m.cls := findClass_of_methodNamed B.named
  have hlocks := B.notSynchronized
  have hiX0 : ∀ w ∈ wsX00, w ∈ wsX5_mask := by decide +kernel
  have hiX1 : ∀ w ∈ wsX10, w ∈ wsX5_mask := by decide +kernel
  have hiX5 : ∀ w ∈ wsX50, w ∈ wsX5_mask := by decide +kernel
  have hl := lv_entry ([.ref (ad 0), .int a1]) (n := 2) (Nat.le_of_ble_eq_true rfl)
  rw [lg_entry_eq]
  generalize (lg_sl ([.ref (ad 0), .int a1]) ++ List.replicate (2 - (lg_sl ([.ref (ad 0), .int a1])).length) Slot.unset).toArray = ls at hl ⊢
  have hl : lv_has ls 2 [(0, .ref (ad 0)), (1, .int a1)] := hl
  unfold f_X5_mask at hf
  obtain ⟨H, eH⟩ : ∃ H, H = s.heap := ⟨_, rfl⟩
  obtain ⟨locs, eL⟩ : ∃ L : List Loc, L = [] := ⟨_, rfl⟩
  rw [← eH, ← eL] at hw ⊢
  clear eH eL
  have B21 : ∀ (O : XO) (K : RK) (x1 : Int32) (y0 : Int32) (H : Heap) (locs : List Loc) (ls : Array Slot), f_X5_mask_b21 O K x1 y0 = some (r, O', K') → WH D cI cR A (xws cI cR ad O K) s H locs → lv_has ls 2 [(0, .ref (ad 0)), (1, .int x1)] → W p l e (headSpec wsX5_mask ({ frames := 5, cells := 0, slots := 0, locals := 105 })).room s m ([.ref (ad 0), .int a1] : List Value).toArray below meth c H locs 0 0 (MQ below (QV (some (.int r)) D A (xws cI cR ad O' K')) (([.ref (ad 0), .int a1] : List Value)).toArray s 0 0 A) (F0 m 21 ls [.int y0]) := by
    intro O K x1 y0 H locs ls hf hw hl
    unfold f_X5_mask_b21 at hf
    obtain ⟨hg, hf⟩ := gdE hf
    refine q_callS (rest := []) (st1 := []) [.int y0] ⟨hx, hb, hml, hown, hts⟩ (c_X5_needState hg) (va_cwS 1 hts gX5_mask_X5_needState rfl rfl rfl (by decide +kernel) ⟨Nat.le_of_ble_eq_true rfl, Nat.le_of_ble_eq_true rfl⟩) hw rfl hl.1 rfl (Nat.le_of_ble_eq_true rfl) dX5_mask_21 ⟨Nat.zero_le _, Nat.zero_le _⟩ rfl (fun H locs hw => ?_)
    refine lv_aload_n hx hb dX5_mask_24 rfl (lv_at hl 0 rfl) ?_
    refine q_get hx hb hts hiX5 hown hw 0 xa_0 rfl 2 (by decide) (hts (.fieldLink RX5 22 "LaceRanks" "history" "LLaceRanks$History;") (by decide +kernel)) rfl dX5_mask_25 ?_
    refine lv_aload_n hx hb dX5_mask_28 rfl (lv_at hl 0 rfl) ?_
    refine q_get hx hb hts hiX5 hown hw 0 xa_0 rfl 0 (by decide) (hts (.fieldLink RX5 10 "LaceRanks" "now" "LLaceRanks$Carnival;") (by decide +kernel)) rfl dX5_mask_29 ?_
    obtain ⟨O1, hr1, hf⟩ := bndS hf
    refine q_callVN (rest := []) (st1 := []) [.ref (ad 1)] ⟨hx, hb, hml, hown, hts⟩ (c_X2_save hr1) ⟨va_cnB 1 hts gX5_mask_X2_save_n58 rfl rfl rfl (nw_X5_58 hw.2.2.2.2) (hts (.initialized RX2) (by decide +kernel)) (by decide +kernel) ⟨Nat.le_of_ble_eq_true rfl, Nat.le_of_ble_eq_true rfl⟩, (hts (.instanceMethod yX2_save) (by decide +kernel)), (hts (.selects RX2 yX2_save yX2_save) (by decide +kernel))⟩ hw xa_29 rfl rfl hl.1 rfl (Nat.le_of_ble_eq_true rfl) dX5_mask_32 ⟨Nat.zero_le _, Nat.zero_le _⟩ rfl (fun H locs hw => ?_)
    refine lv_aload_n hx hb dX5_mask_35 rfl (lv_at hl 0 rfl) ?_
    refine q_get hx hb hts hiX5 hown hw 0 xa_0 rfl 0 (by decide) (hts (.fieldLink RX5 10 "LaceRanks" "now" "LLaceRanks$Carnival;") (by decide +kernel)) rfl dX5_mask_36 ?_
    refine lv_iload_n hx hb dX5_mask_39 rfl (lv_at hl 1 rfl) ?_
    obtain ⟨K2, hr2, hf⟩ := bndS hf
    refine q_callVN (rest := []) (st1 := []) [.int x1] ⟨hx, hb, hml, hown, hts⟩ (c_X0_takeMask hr2) ⟨va_cnB 1 hts gX5_mask_X0_takeMask_n106 rfl rfl rfl (nw_X5_106 hw.2.2.2.2) (hts (.initialized RX0) (by decide +kernel)) (by decide +kernel) ⟨Nat.le_of_ble_eq_true rfl, Nat.le_of_ble_eq_true rfl⟩, (hts (.instanceMethod yX0_takeMask) (by decide +kernel)), (hts (.selects RX0 yX0_takeMask yX0_takeMask) (by decide +kernel))⟩ hw xa_1 rfl rfl hl.1 rfl (Nat.le_of_ble_eq_true rfl) dX5_mask_40 ⟨Nat.zero_le _, Nat.zero_le _⟩ rfl (fun H locs hw => ?_)
    refine lv_aload_n hx hb dX5_mask_43 rfl (lv_at hl 0 rfl) ?_
    refine q_get hx hb hts hiX5 hown hw 0 xa_0 rfl 0 (by decide) (hts (.fieldLink RX5 10 "LaceRanks" "now" "LLaceRanks$Carnival;") (by decide +kernel)) rfl dX5_mask_44 ?_
    refine q_getN hx hb hts hiX0 hown hw 1 xa_1 rfl 0 (by decide) (nw_X5_45 hw.2.2.2.2) rfl dX5_mask_47 ?_
    refine q_getN hx hb hts hiX1 hown hw 2 xa_2 rfl 1 (by decide) (nw_X5_109 hw.2.2.2.2) rfl dX5_mask_50 ?_
    refine lv_iload_n hx hb dX5_mask_53 rfl (lv_at hl 1 rfl) ?_
    obtain ⟨r3, hr3, hf⟩ := nmE hf
    refine q_callS (rest := []) (st1 := [.int r3]) [.ref (ad 4), .int x1] ⟨hx, hb, hml, hown, hts⟩ (c_X5_at (q0 := 4) xa_4 hr3) (va_cwS 2 hts gX5_mask_X5_at rfl rfl rfl (by decide +kernel) ⟨Nat.le_of_ble_eq_true rfl, Nat.le_of_ble_eq_true rfl⟩) hw rfl hl.1 rfl (Nat.le_of_ble_eq_true rfl) dX5_mask_54 ⟨Nat.zero_le _, Nat.zero_le _⟩ rfl (fun H locs hw => ?_)
    cases hf
    exact q_iret hx hb hr hlocks hw dX5_mask_57
  refine lv_aload_n hx hb dX5_mask_0 rfl (lv_at hl 0 rfl) ?_
  refine lv_iload_n hx hb dX5_mask_1 rfl (lv_at hl 1 rfl) ?_
  obtain ⟨hg, hf⟩ := gdE hf
  refine q_callV (rest := []) (st1 := []) [.int a1] ⟨hx, hb, hml, hown, hts⟩ (c_X5_needGuest hg) (cwV 1 hts gX5_mask_X5_needGuest rfl rfl rfl (by decide +kernel) ⟨Nat.le_of_ble_eq_true rfl, Nat.le_of_ble_eq_true rfl⟩) hw xa_0 rfl rfl hl.1 rfl (Nat.le_of_ble_eq_true rfl) dX5_mask_2 ⟨Nat.zero_le _, Nat.zero_le _⟩ rfl (fun H locs hw => ?_)
  refine lv_aload_n hx hb dX5_mask_5 rfl (lv_at hl 0 rfl) ?_
  refine q_get hx hb hts hiX5 hown hw 0 xa_0 rfl 0 (by decide) (hts (.fieldLink RX5 10 "LaceRanks" "now" "LLaceRanks$Carnival;") (by decide +kernel)) rfl dX5_mask_6 ?_
  refine lv_iload_n hx hb dX5_mask_9 rfl (lv_at hl 1 rfl) ?_
  obtain ⟨r1, hr1, hf⟩ := bndS hf
  refine q_callVN (rest := []) (st1 := [.int r1]) [.int a1] ⟨hx, hb, hml, hown, hts⟩ (c_X0_reasonNoMask hr1) ⟨va_cnB 1 hts gX5_mask_X0_reasonNoMask_n103 rfl rfl rfl (nw_X5_103 hw.2.2.2.2) (hts (.initialized RX0) (by decide +kernel)) (by decide +kernel) ⟨Nat.le_of_ble_eq_true rfl, Nat.le_of_ble_eq_true rfl⟩, (hts (.instanceMethod yX0_reasonNoMask) (by decide +kernel)), (hts (.selects RX0 yX0_reasonNoMask yX0_reasonNoMask) (by decide +kernel))⟩ hw xa_1 rfl rfl hl.1 rfl (Nat.le_of_ble_eq_true rfl) dX5_mask_10 ⟨Nat.zero_le _, Nat.zero_le _⟩ rfl (fun H locs hw => ?_)
  refine lv_if_ne (tgt := 20) hx hb dX5_mask_13 (by decide) (fun hc => ?_) (fun hc => ?_)
  · have hf := iteF hf hc
    refine lv_iconst (v := 0) hx hb dX5_mask_20 (by decide) ?_
    exact B21 O K a1 0 H locs ls hf hw (lv_sub hl [0, 1] rfl)
  · have hf := iteT hf hc
    refine lv_iconst (v := 1) hx hb dX5_mask_16 (by decide) ?_
    refine lv_goto (tgt := 21) hx hb dX5_mask_17 (by decide) ?_
    exact B21 O K a1 1 H locs ls hf hw (lv_sub hl [0, 1] rfl)

def f_X5_pay (O : XO) (K : RK)  (a1 : Int32) : Option (Int32 × XO × RK) := gd (ndg K a1) (bnd (f_X2_save O K) (fun O1 => bnd (f_X0_payDebts K a1) (fun K2 => nm (at_ 10 (K2 2) a1) (fun r3 => some (r3, O1, K2)))))
set_option maxHeartbeats 4000000 in
set_option maxRecDepth 100000 in
theorem c_X5_pay {l : Launch} {D : va_G} {cI cR : ClassId} {ad : Nat → Nat} {A : Nat → Prop} {O : XO} {K : RK} {O' : XO} {K' : RK} {a1 : Int32} {r : Int32}  (hf : f_X5_pay O K a1 = some (r, O', K')) : MC l yX5_pay wsX5_pay 5 105 D cI cR A [.ref (ad 0), .int a1] (xws cI cR ad O K) (some (.int r)) (xws cI cR ad O' K') := by
  refine Met.ofW (cc := cX5_pay) (maxL := 2) (ret := (some .int)) (by decide) rfl ?_
  intro p e s m args below meth c s₁ B hml hv
  obtain ⟨rfl, hw⟩ := q_start hv
  have hx := B.exec
  have hb := B.bytes
  have hr := B.returns
  have hts := atoms_spec (ws := wsX5_pay) B.pre
  have hown : s.vm.findClass RX5 = some m.cls := findClass_of_methodNamed B.named
  have hlocks := B.notSynchronized
  have hiX0 : ∀ w ∈ wsX00, w ∈ wsX5_pay := by decide +kernel
  have hiX1 : ∀ w ∈ wsX10, w ∈ wsX5_pay := by decide +kernel
  have hiX5 : ∀ w ∈ wsX50, w ∈ wsX5_pay := by decide +kernel
  have hl := lv_entry ([.ref (ad 0), .int a1]) (n := 2) (Nat.le_of_ble_eq_true rfl)
  rw [lg_entry_eq]
  generalize (lg_sl ([.ref (ad 0), .int a1]) ++ List.replicate (2 - (lg_sl ([.ref (ad 0), .int a1])).length) Slot.unset).toArray = ls at hl ⊢
  have hl : lv_has ls 2 [(0, .ref (ad 0)), (1, .int a1)] := hl
  unfold f_X5_pay at hf
  obtain ⟨H, eH⟩ : ∃ H, H = s.heap := ⟨_, rfl⟩
  obtain ⟨locs, eL⟩ : ∃ L : List Loc, L = [] := ⟨_, rfl⟩
  rw [← eH, ← eL] at hw ⊢
  clear eH eL
  refine lv_aload_n hx hb dX5_pay_0 rfl (lv_at hl 0 rfl) ?_
  refine lv_iload_n hx hb dX5_pay_1 rfl (lv_at hl 1 rfl) ?_
  obtain ⟨hg, hf⟩ := gdE hf
  refine q_callV (rest := []) (st1 := []) [.int a1] ⟨hx, hb, hml, hown, hts⟩ (c_X5_needGuest hg) (cwV 1 hts gX5_pay_X5_needGuest rfl rfl rfl (by decide +kernel) ⟨Nat.le_of_ble_eq_true rfl, Nat.le_of_ble_eq_true rfl⟩) hw xa_0 rfl rfl hl.1 rfl (Nat.le_of_ble_eq_true rfl) dX5_pay_2 ⟨Nat.zero_le _, Nat.zero_le _⟩ rfl (fun H locs hw => ?_)
  refine lv_aload_n hx hb dX5_pay_5 rfl (lv_at hl 0 rfl) ?_
  refine q_get hx hb hts hiX5 hown hw 0 xa_0 rfl 2 (by decide) (hts (.fieldLink RX5 22 "LaceRanks" "history" "LLaceRanks$History;") (by decide +kernel)) rfl dX5_pay_6 ?_
  refine lv_aload_n hx hb dX5_pay_9 rfl (lv_at hl 0 rfl) ?_
  refine q_get hx hb hts hiX5 hown hw 0 xa_0 rfl 0 (by decide) (hts (.fieldLink RX5 10 "LaceRanks" "now" "LLaceRanks$Carnival;") (by decide +kernel)) rfl dX5_pay_10 ?_
  obtain ⟨O1, hr1, hf⟩ := bndS hf
  refine q_callVN (rest := []) (st1 := []) [.ref (ad 1)] ⟨hx, hb, hml, hown, hts⟩ (c_X2_save hr1) ⟨va_cnB 1 hts gX5_pay_X2_save_n58 rfl rfl rfl (nw_X5_58 hw.2.2.2.2) (hts (.initialized RX2) (by decide +kernel)) (by decide +kernel) ⟨Nat.le_of_ble_eq_true rfl, Nat.le_of_ble_eq_true rfl⟩, (hts (.instanceMethod yX2_save) (by decide +kernel)), (hts (.selects RX2 yX2_save yX2_save) (by decide +kernel))⟩ hw xa_29 rfl rfl hl.1 rfl (Nat.le_of_ble_eq_true rfl) dX5_pay_13 ⟨Nat.zero_le _, Nat.zero_le _⟩ rfl (fun H locs hw => ?_)
  refine lv_aload_n hx hb dX5_pay_16 rfl (lv_at hl 0 rfl) ?_
  refine q_get hx hb hts hiX5 hown hw 0 xa_0 rfl 0 (by decide) (hts (.fieldLink RX5 10 "LaceRanks" "now" "LLaceRanks$Carnival;") (by decide +kernel)) rfl dX5_pay_17 ?_
  refine lv_iload_n hx hb dX5_pay_20 rfl (lv_at hl 1 rfl) ?_
  obtain ⟨K2, hr2, hf⟩ := bndS hf
  refine q_callVN (rest := []) (st1 := []) [.int a1] ⟨hx, hb, hml, hown, hts⟩ (c_X0_payDebts hr2) ⟨va_cnB 1 hts gX5_pay_X0_payDebts_n112 rfl rfl rfl (nw_X5_112 hw.2.2.2.2) (hts (.initialized RX0) (by decide +kernel)) (by decide +kernel) ⟨Nat.le_of_ble_eq_true rfl, Nat.le_of_ble_eq_true rfl⟩, (hts (.instanceMethod yX0_payDebts) (by decide +kernel)), (hts (.selects RX0 yX0_payDebts yX0_payDebts) (by decide +kernel))⟩ hw xa_1 rfl rfl hl.1 rfl (Nat.le_of_ble_eq_true rfl) dX5_pay_21 ⟨Nat.zero_le _, Nat.zero_le _⟩ rfl (fun H locs hw => ?_)
  refine lv_aload_n hx hb dX5_pay_24 rfl (lv_at hl 0 rfl) ?_
  refine q_get hx hb hts hiX5 hown hw 0 xa_0 rfl 0 (by decide) (hts (.fieldLink RX5 10 "LaceRanks" "now" "LLaceRanks$Carnival;") (by decide +kernel)) rfl dX5_pay_25 ?_
  refine q_getN hx hb hts hiX0 hown hw 1 xa_1 rfl 0 (by decide) (nw_X5_45 hw.2.2.2.2) rfl dX5_pay_28 ?_
  refine q_getN hx hb hts hiX1 hown hw 2 xa_2 rfl 2 (by decide) (nw_X5_115 hw.2.2.2.2) rfl dX5_pay_31 ?_
  refine lv_iload_n hx hb dX5_pay_34 rfl (lv_at hl 1 rfl) ?_
  obtain ⟨r3, hr3, hf⟩ := nmE hf
  refine q_callS (rest := []) (st1 := [.int r3]) [.ref (ad 5), .int a1] ⟨hx, hb, hml, hown, hts⟩ (c_X5_at (q0 := 5) xa_5 hr3) (va_cwS 2 hts gX5_pay_X5_at rfl rfl rfl (by decide +kernel) ⟨Nat.le_of_ble_eq_true rfl, Nat.le_of_ble_eq_true rfl⟩) hw rfl hl.1 rfl (Nat.le_of_ble_eq_true rfl) dX5_pay_35 ⟨Nat.zero_le _, Nat.zero_le _⟩ rfl (fun H locs hw => ?_)
  cases hf
  exact q_iret hx hb hr hlocks hw dX5_pay_38

def f_X5_queue_b28    (O : XO) (K : RK) (x1 : Int32) (x2 : Int32) (y0 : Int32) : Option (Int32 × XO × RK) := gd (ndb y0) (bnd (f_X2_save O K) (fun O1 => bnd2 (f_X3_enter K x1 x2) (fun r2 K3 => some (r2, O1, K3))))
def f_X5_queue (O : XO) (K : RK)  (a1 : Int32) (a2 : Int32) : Option (Int32 × XO × RK) := gd (ndg K a1) (bnd (f_X5_isGate a2) (fun r1 => gd (ndb r1) (bnd (f_X0_reasonNoLine K a1) (fun r2 => (if r2 = 0 then f_X5_queue_b28 O K a1 a2 1 else f_X5_queue_b28 O K a1 a2 0)))))
set_option maxHeartbeats 4000000 in
set_option maxRecDepth 100000 in
theorem c_X5_queue {l : Launch} {D : va_G} {cI cR : ClassId} {ad : Nat → Nat} {A : Nat → Prop} {O : XO} {K : RK} {O' : XO} {K' : RK} {a1 : Int32} {a2 : Int32} {r : Int32}  (hf : f_X5_queue O K a1 a2 = some (r, O', K')) : MC l yX5_queue wsX5_queue 5 105 D cI cR A [.ref (ad 0), .int a1, .int a2] (xws cI cR ad O K) (some (.int r)) (xws cI cR ad O' K') := by
  refine Met.ofW (cc := cX5_queue) (maxL := 3) (ret := (some .int)) (by decide) rfl ?_
  intro p e s m args below meth c s₁ B hml hv
  obtain ⟨rfl, hw⟩ := q_start hv
  have hx := B.exec
  have hb := B.bytes
  have hr := B.returns
  have hts := atoms_spec (ws := wsX5_queue) B.pre
  have hown : s.vm.findClass RX5 = some m.cls := findClass_of_methodNamed B.named
  have hlocks := B.notSynchronized
  have hiX0 : ∀ w ∈ wsX00, w ∈ wsX5_queue := by decide +kernel
  have hiX5 : ∀ w ∈ wsX50, w ∈ wsX5_queue := by decide +kernel
  have hl := lv_entry ([.ref (ad 0), .int a1, .int a2]) (n := 3) (Nat.le_of_ble_eq_true rfl)
  rw [lg_entry_eq]
  generalize (lg_sl ([.ref (ad 0), .int a1, .int a2]) ++ List.replicate (3 - (lg_sl ([.ref (ad 0), .int a1, .int a2])).length) Slot.unset).toArray = ls at hl ⊢
  have hl : lv_has ls 3 [(0, .ref (ad 0)), (1, .int a1), (2, .int a2)] := hl
  unfold f_X5_queue at hf
  obtain ⟨H, eH⟩ : ∃ H, H = s.heap := ⟨_, rfl⟩
  obtain ⟨locs, eL⟩ : ∃ L : List Loc, L = [] := ⟨_, rfl⟩
  rw [← eH, ← eL] at hw ⊢
  clear eH eL
  have B28 : ∀ (O : XO) (K : RK) (x1 : Int32) (x2 : Int32) (y0 : Int32) (H : Heap) (locs : List Loc) (ls : Array Slot), f_X5_queue_b28 O K x1 x2 y0 = some (r, O', K') → WH D cI cR A (xws cI cR ad O K) s H locs → lv_has ls 3 [(0, .ref (ad 0)), (1, .int x1), (2, .int x2)] → W p l e (headSpec wsX5_queue ({ frames := 5, cells := 0, slots := 0, locals := 105 })).room s m ([.ref (ad 0), .int a1, .int a2] : List Value).toArray below meth c H locs 0 0 (MQ below (QV (some (.int r)) D A (xws cI cR ad O' K')) (([.ref (ad 0), .int a1, .int a2] : List Value)).toArray s 0 0 A) (F0 m 28 ls [.int y0]) := by
    intro O K x1 x2 y0 H locs ls hf hw hl
    unfold f_X5_queue_b28 at hf
    obtain ⟨hg, hf⟩ := gdE hf
    refine q_callS (rest := []) (st1 := []) [.int y0] ⟨hx, hb, hml, hown, hts⟩ (c_X5_needState hg) (va_cwS 1 hts gX5_queue_X5_needState rfl rfl rfl (by decide +kernel) ⟨Nat.le_of_ble_eq_true rfl, Nat.le_of_ble_eq_true rfl⟩) hw rfl hl.1 rfl (Nat.le_of_ble_eq_true rfl) dX5_queue_28 ⟨Nat.zero_le _, Nat.zero_le _⟩ rfl (fun H locs hw => ?_)
    refine lv_aload_n hx hb dX5_queue_31 rfl (lv_at hl 0 rfl) ?_
    refine q_get hx hb hts hiX5 hown hw 0 xa_0 rfl 2 (by decide) (hts (.fieldLink RX5 22 "LaceRanks" "history" "LLaceRanks$History;") (by decide +kernel)) rfl dX5_queue_32 ?_
    refine lv_aload_n hx hb dX5_queue_35 rfl (lv_at hl 0 rfl) ?_
    refine q_get hx hb hts hiX5 hown hw 0 xa_0 rfl 0 (by decide) (hts (.fieldLink RX5 10 "LaceRanks" "now" "LLaceRanks$Carnival;") (by decide +kernel)) rfl dX5_queue_36 ?_
    obtain ⟨O1, hr1, hf⟩ := bndS hf
    refine q_callVN (rest := []) (st1 := []) [.ref (ad 1)] ⟨hx, hb, hml, hown, hts⟩ (c_X2_save hr1) ⟨va_cnB 1 hts gX5_queue_X2_save_n58 rfl rfl rfl (nw_X5_58 hw.2.2.2.2) (hts (.initialized RX2) (by decide +kernel)) (by decide +kernel) ⟨Nat.le_of_ble_eq_true rfl, Nat.le_of_ble_eq_true rfl⟩, (hts (.instanceMethod yX2_save) (by decide +kernel)), (hts (.selects RX2 yX2_save yX2_save) (by decide +kernel))⟩ hw xa_29 rfl rfl hl.1 rfl (Nat.le_of_ble_eq_true rfl) dX5_queue_39 ⟨Nat.zero_le _, Nat.zero_le _⟩ rfl (fun H locs hw => ?_)
    refine lv_aload_n hx hb dX5_queue_42 rfl (lv_at hl 0 rfl) ?_
    refine q_get hx hb hts hiX5 hown hw 0 xa_0 rfl 0 (by decide) (hts (.fieldLink RX5 10 "LaceRanks" "now" "LLaceRanks$Carnival;") (by decide +kernel)) rfl dX5_queue_43 ?_
    refine q_getN hx hb hts hiX0 hown hw 1 xa_1 rfl 1 (by decide) (nw_X5_127 hw.2.2.2.2) rfl dX5_queue_46 ?_
    refine lv_iload_n hx hb dX5_queue_49 rfl (lv_at hl 1 rfl) ?_
    refine lv_iload_n hx hb dX5_queue_50 rfl (lv_at hl 2 rfl) ?_
    obtain ⟨r2, K3, hr3, hf⟩ := bnd2S hf
    refine q_callVN (rest := []) (st1 := [.int r2]) [.int x1, .int x2] ⟨hx, hb, hml, hown, hts⟩ (c_X3_enter hr3) ⟨va_cnB 2 hts gX5_queue_X3_enter_n131 rfl rfl rfl (nw_X5_131 hw.2.2.2.2) (hts (.initialized RX3) (by decide +kernel)) (by decide +kernel) ⟨Nat.le_of_ble_eq_true rfl, Nat.le_of_ble_eq_true rfl⟩, (hts (.instanceMethod yX3_enter) (by decide +kernel)), (hts (.selects RX3 yX3_enter yX3_enter) (by decide +kernel))⟩ hw xa_11 rfl rfl hl.1 rfl (Nat.le_of_ble_eq_true rfl) dX5_queue_51 ⟨Nat.zero_le _, Nat.zero_le _⟩ rfl (fun H locs hw => ?_)
    cases hf
    exact q_iret hx hb hr hlocks hw dX5_queue_54
  refine lv_aload_n hx hb dX5_queue_0 rfl (lv_at hl 0 rfl) ?_
  refine lv_iload_n hx hb dX5_queue_1 rfl (lv_at hl 1 rfl) ?_
  obtain ⟨hg, hf⟩ := gdE hf
  refine q_callV (rest := []) (st1 := []) [.int a1] ⟨hx, hb, hml, hown, hts⟩ (c_X5_needGuest hg) (cwV 1 hts gX5_queue_X5_needGuest rfl rfl rfl (by decide +kernel) ⟨Nat.le_of_ble_eq_true rfl, Nat.le_of_ble_eq_true rfl⟩) hw xa_0 rfl rfl hl.1 rfl (Nat.le_of_ble_eq_true rfl) dX5_queue_2 ⟨Nat.zero_le _, Nat.zero_le _⟩ rfl (fun H locs hw => ?_)
  refine lv_iload_n hx hb dX5_queue_5 rfl (lv_at hl 2 rfl) ?_
  obtain ⟨r1, hr1, hf⟩ := bndS hf
  refine q_callS (rest := []) (st1 := [.int r1]) [.int a2] ⟨hx, hb, hml, hown, hts⟩ (c_X5_isGate hr1) (va_cwS 1 hts gX5_queue_X5_isGate rfl rfl rfl (by decide +kernel) ⟨Nat.le_of_ble_eq_true rfl, Nat.le_of_ble_eq_true rfl⟩) hw rfl hl.1 rfl (Nat.le_of_ble_eq_true rfl) dX5_queue_6 ⟨Nat.zero_le _, Nat.zero_le _⟩ rfl (fun H locs hw => ?_)
  obtain ⟨hg, hf⟩ := gdE hf
  refine q_callS (rest := []) (st1 := []) [.int r1] ⟨hx, hb, hml, hown, hts⟩ (c_X5_needIndex hg) (va_cwS 1 hts gX5_queue_X5_needIndex rfl rfl rfl (by decide +kernel) ⟨Nat.le_of_ble_eq_true rfl, Nat.le_of_ble_eq_true rfl⟩) hw rfl hl.1 rfl (Nat.le_of_ble_eq_true rfl) dX5_queue_9 ⟨Nat.zero_le _, Nat.zero_le _⟩ rfl (fun H locs hw => ?_)
  refine lv_aload_n hx hb dX5_queue_12 rfl (lv_at hl 0 rfl) ?_
  refine q_get hx hb hts hiX5 hown hw 0 xa_0 rfl 0 (by decide) (hts (.fieldLink RX5 10 "LaceRanks" "now" "LLaceRanks$Carnival;") (by decide +kernel)) rfl dX5_queue_13 ?_
  refine lv_iload_n hx hb dX5_queue_16 rfl (lv_at hl 1 rfl) ?_
  obtain ⟨r2, hr2, hf⟩ := bndS hf
  refine q_callVN (rest := []) (st1 := [.int r2]) [.int a1] ⟨hx, hb, hml, hown, hts⟩ (c_X0_reasonNoLine hr2) ⟨va_cnB 1 hts gX5_queue_X0_reasonNoLine_n124 rfl rfl rfl (nw_X5_124 hw.2.2.2.2) (hts (.initialized RX0) (by decide +kernel)) (by decide +kernel) ⟨Nat.le_of_ble_eq_true rfl, Nat.le_of_ble_eq_true rfl⟩, (hts (.instanceMethod yX0_reasonNoLine) (by decide +kernel)), (hts (.selects RX0 yX0_reasonNoLine yX0_reasonNoLine) (by decide +kernel))⟩ hw xa_1 rfl rfl hl.1 rfl (Nat.le_of_ble_eq_true rfl) dX5_queue_17 ⟨Nat.zero_le _, Nat.zero_le _⟩ rfl (fun H locs hw => ?_)
  refine lv_if_ne (tgt := 27) hx hb dX5_queue_20 (by decide) (fun hc => ?_) (fun hc => ?_)
  · have hf := iteF hf hc
    refine lv_iconst (v := 0) hx hb dX5_queue_27 (by decide) ?_
    exact B28 O K a1 a2 0 H locs ls hf hw (lv_sub hl [0, 1, 2] rfl)
  · have hf := iteT hf hc
    refine lv_iconst (v := 1) hx hb dX5_queue_23 (by decide) ?_
    refine lv_goto (tgt := 28) hx hb dX5_queue_24 (by decide) ?_
    exact B28 O K a1 a2 1 H locs ls hf hw (lv_sub hl [0, 1, 2] rfl)

def f_X5_open_b29    (O : XO) (K : RK) (x1 : Int32) (y0 : Int32) : Option (Int32 × XO × RK) := gd (ndb y0) (bnd (f_X2_save O K) (fun O1 => bnd2 (f_X0_openOnce K x1) (fun r2 K3 => some (r2, O1, K3))))
def f_X5_open (O : XO) (K : RK)  (a1 : Int32) : Option (Int32 × XO × RK) := bnd (f_X5_isGate a1) (fun r1 => gd (ndb r1) (nm (at_ 3 (K 9) a1) (fun r2 => (if r2 ≤ 0 then f_X5_open_b29 O K a1 0 else f_X5_open_b29 O K a1 1))))
set_option maxHeartbeats 4000000 in
set_option maxRecDepth 100000 in
theorem c_X5_open {l : Launch} {D : va_G} {cI cR : ClassId} {ad : Nat → Nat} {A : Nat → Prop} {O : XO} {K : RK} {O' : XO} {K' : RK} {a1 : Int32} {r : Int32}  (hf : f_X5_open O K a1 = some (r, O', K')) : MC l yX5_open wsX5_open 5 113 D cI cR A [.ref (ad 0), .int a1] (xws cI cR ad O K) (some (.int r)) (xws cI cR ad O' K') := by
  refine Met.ofW (cc := cX5_open) (maxL := 2) (ret := (some .int)) (by decide) rfl ?_
  intro p e s m args below meth c s₁ B hml hv
  obtain ⟨rfl, hw⟩ := q_start hv
  have hx := B.exec
  have hb := B.bytes
  have hr := B.returns
  have hts := atoms_spec (ws := wsX5_open) B.pre
  have hown : s.vm.findClass RX5 = some m.cls := findClass_of_methodNamed B.named
  have hlocks := B.notSynchronized
  have hiX0 : ∀ w ∈ wsX00, w ∈ wsX5_open := by decide +kernel
  have hiX3 : ∀ w ∈ wsX30, w ∈ wsX5_open := by decide +kernel
  have hiX5 : ∀ w ∈ wsX50, w ∈ wsX5_open := by decide +kernel
  have hl := lv_entry ([.ref (ad 0), .int a1]) (n := 2) (Nat.le_of_ble_eq_true rfl)
  rw [lg_entry_eq]
  generalize (lg_sl ([.ref (ad 0), .int a1]) ++ List.replicate (2 - (lg_sl ([.ref (ad 0), .int a1])).length) Slot.unset).toArray = ls at hl ⊢
  have hl : lv_has ls 2 [(0, .ref (ad 0)), (1, .int a1)] := hl
  unfold f_X5_open at hf
  obtain ⟨H, eH⟩ : ∃ H, H = s.heap := ⟨_, rfl⟩
  obtain ⟨locs, eL⟩ : ∃ L : List Loc, L = [] := ⟨_, rfl⟩
  rw [← eH, ← eL] at hw ⊢
  clear eH eL
  have B29 : ∀ (O : XO) (K : RK) (x1 : Int32) (y0 : Int32) (H : Heap) (locs : List Loc) (ls : Array Slot), f_X5_open_b29 O K x1 y0 = some (r, O', K') → WH D cI cR A (xws cI cR ad O K) s H locs → lv_has ls 2 [(0, .ref (ad 0)), (1, .int x1)] → W p l e (headSpec wsX5_open ({ frames := 5, cells := 0, slots := 0, locals := 113 })).room s m ([.ref (ad 0), .int a1] : List Value).toArray below meth c H locs 0 0 (MQ below (QV (some (.int r)) D A (xws cI cR ad O' K')) (([.ref (ad 0), .int a1] : List Value)).toArray s 0 0 A) (F0 m 29 ls [.int y0]) := by
    intro O K x1 y0 H locs ls hf hw hl
    unfold f_X5_open_b29 at hf
    obtain ⟨hg, hf⟩ := gdE hf
    refine q_callS (rest := []) (st1 := []) [.int y0] ⟨hx, hb, hml, hown, hts⟩ (c_X5_needState hg) (va_cwS 1 hts gX5_open_X5_needState rfl rfl rfl (by decide +kernel) ⟨Nat.le_of_ble_eq_true rfl, Nat.le_of_ble_eq_true rfl⟩) hw rfl hl.1 rfl (Nat.le_of_ble_eq_true rfl) dX5_open_29 ⟨Nat.zero_le _, Nat.zero_le _⟩ rfl (fun H locs hw => ?_)
    refine lv_aload_n hx hb dX5_open_32 rfl (lv_at hl 0 rfl) ?_
    refine q_get hx hb hts hiX5 hown hw 0 xa_0 rfl 2 (by decide) (hts (.fieldLink RX5 22 "LaceRanks" "history" "LLaceRanks$History;") (by decide +kernel)) rfl dX5_open_33 ?_
    refine lv_aload_n hx hb dX5_open_36 rfl (lv_at hl 0 rfl) ?_
    refine q_get hx hb hts hiX5 hown hw 0 xa_0 rfl 0 (by decide) (hts (.fieldLink RX5 10 "LaceRanks" "now" "LLaceRanks$Carnival;") (by decide +kernel)) rfl dX5_open_37 ?_
    obtain ⟨O1, hr1, hf⟩ := bndS hf
    refine q_callVN (rest := []) (st1 := []) [.ref (ad 1)] ⟨hx, hb, hml, hown, hts⟩ (c_X2_save hr1) ⟨va_cnB 1 hts gX5_open_X2_save_n58 rfl rfl rfl (nw_X5_58 hw.2.2.2.2) (hts (.initialized RX2) (by decide +kernel)) (by decide +kernel) ⟨Nat.le_of_ble_eq_true rfl, Nat.le_of_ble_eq_true rfl⟩, (hts (.instanceMethod yX2_save) (by decide +kernel)), (hts (.selects RX2 yX2_save yX2_save) (by decide +kernel))⟩ hw xa_29 rfl rfl hl.1 rfl (Nat.le_of_ble_eq_true rfl) dX5_open_40 ⟨Nat.zero_le _, Nat.zero_le _⟩ rfl (fun H locs hw => ?_)
    refine lv_aload_n hx hb dX5_open_43 rfl (lv_at hl 0 rfl) ?_
    refine q_get hx hb hts hiX5 hown hw 0 xa_0 rfl 0 (by decide) (hts (.fieldLink RX5 10 "LaceRanks" "now" "LLaceRanks$Carnival;") (by decide +kernel)) rfl dX5_open_44 ?_
    refine lv_iload_n hx hb dX5_open_47 rfl (lv_at hl 1 rfl) ?_
    obtain ⟨r2, K3, hr3, hf⟩ := bnd2S hf
    refine q_callVN (rest := []) (st1 := [.int r2]) [.int x1] ⟨hx, hb, hml, hown, hts⟩ (c_X0_openOnce hr3) ⟨va_cnB 1 hts gX5_open_X0_openOnce_n139 rfl rfl rfl (nw_X5_139 hw.2.2.2.2) (hts (.initialized RX0) (by decide +kernel)) (by decide +kernel) ⟨Nat.le_of_ble_eq_true rfl, Nat.le_of_ble_eq_true rfl⟩, (hts (.instanceMethod yX0_openOnce) (by decide +kernel)), (hts (.selects RX0 yX0_openOnce yX0_openOnce) (by decide +kernel))⟩ hw xa_1 rfl rfl hl.1 rfl (Nat.le_of_ble_eq_true rfl) dX5_open_48 ⟨Nat.zero_le _, Nat.zero_le _⟩ rfl (fun H locs hw => ?_)
    cases hf
    exact q_iret hx hb hr hlocks hw dX5_open_51
  refine lv_iload_n hx hb dX5_open_0 rfl (lv_at hl 1 rfl) ?_
  obtain ⟨r1, hr1, hf⟩ := bndS hf
  refine q_callS (rest := []) (st1 := [.int r1]) [.int a1] ⟨hx, hb, hml, hown, hts⟩ (c_X5_isGate hr1) (va_cwS 1 hts gX5_open_X5_isGate rfl rfl rfl (by decide +kernel) ⟨Nat.le_of_ble_eq_true rfl, Nat.le_of_ble_eq_true rfl⟩) hw rfl hl.1 rfl (Nat.le_of_ble_eq_true rfl) dX5_open_1 ⟨Nat.zero_le _, Nat.zero_le _⟩ rfl (fun H locs hw => ?_)
  obtain ⟨hg, hf⟩ := gdE hf
  refine q_callS (rest := []) (st1 := []) [.int r1] ⟨hx, hb, hml, hown, hts⟩ (c_X5_needIndex hg) (va_cwS 1 hts gX5_open_X5_needIndex rfl rfl rfl (by decide +kernel) ⟨Nat.le_of_ble_eq_true rfl, Nat.le_of_ble_eq_true rfl⟩) hw rfl hl.1 rfl (Nat.le_of_ble_eq_true rfl) dX5_open_4 ⟨Nat.zero_le _, Nat.zero_le _⟩ rfl (fun H locs hw => ?_)
  refine lv_aload_n hx hb dX5_open_7 rfl (lv_at hl 0 rfl) ?_
  refine q_get hx hb hts hiX5 hown hw 0 xa_0 rfl 0 (by decide) (hts (.fieldLink RX5 10 "LaceRanks" "now" "LLaceRanks$Carnival;") (by decide +kernel)) rfl dX5_open_8 ?_
  refine q_getN hx hb hts hiX0 hown hw 1 xa_1 rfl 1 (by decide) (nw_X5_127 hw.2.2.2.2) rfl dX5_open_11 ?_
  refine q_getN hx hb hts hiX3 hown hw 11 xa_11 rfl 1 (by decide) (nw_X5_136 hw.2.2.2.2) rfl dX5_open_14 ?_
  refine lv_iload_n hx hb dX5_open_17 rfl (lv_at hl 1 rfl) ?_
  obtain ⟨r2, hr2, hf⟩ := nmE hf
  refine q_callS (rest := []) (st1 := [.int r2]) [.ref (ad 13), .int a1] ⟨hx, hb, hml, hown, hts⟩ (c_X5_at (q0 := 13) xa_13 hr2) (va_cwS 2 hts gX5_open_X5_at rfl rfl rfl (by decide +kernel) ⟨Nat.le_of_ble_eq_true rfl, Nat.le_of_ble_eq_true rfl⟩) hw rfl hl.1 rfl (Nat.le_of_ble_eq_true rfl) dX5_open_18 ⟨Nat.zero_le _, Nat.zero_le _⟩ rfl (fun H locs hw => ?_)
  refine lv_if_le (tgt := 28) hx hb dX5_open_21 (by decide) (fun hc => ?_) (fun hc => ?_)
  · have hf := iteT hf hc
    refine lv_iconst (v := 0) hx hb dX5_open_28 (by decide) ?_
    exact B29 O K a1 0 H locs ls hf hw (lv_sub hl [0, 1] rfl)
  · have hf := iteF hf hc
    refine lv_iconst (v := 1) hx hb dX5_open_24 (by decide) ?_
    refine lv_goto (tgt := 29) hx hb dX5_open_25 (by decide) ?_
    exact B29 O K a1 1 H locs ls hf hw (lv_sub hl [0, 1] rfl)

def f_X5_undo_b15    (O : XO) (K : RK) (y0 : Int32) : Option (Int32 × XO × RK) := gd (ndb y0) (bnd2 (f_X2_bringBack O K) (fun O1 K2 => some (O1 8 0 2, O1, K2)))
def f_X5_undo (O : XO) (K : RK)   : Option (Int32 × XO × RK) := (if (O 8 0 2) ≤ 0 then f_X5_undo_b15 O K 0 else f_X5_undo_b15 O K 1)
set_option maxHeartbeats 4000000 in
set_option maxRecDepth 100000 in
theorem c_X5_undo {l : Launch} {D : va_G} {cI cR : ClassId} {ad : Nat → Nat} {A : Nat → Prop} {O : XO} {K : RK} {O' : XO} {K' : RK}  {r : Int32}  (hf : f_X5_undo O K = some (r, O', K')) : MC l yX5_undo wsX5_undo 5 105 D cI cR A [.ref (ad 0)] (xws cI cR ad O K) (some (.int r)) (xws cI cR ad O' K') := by
  refine Met.ofW (cc := cX5_undo) (maxL := 1) (ret := (some .int)) (by decide) rfl ?_
  intro p e s m args below meth c s₁ B hml hv
  obtain ⟨rfl, hw⟩ := q_start hv
  have hx := B.exec
  have hb := B.bytes
  have hr := B.returns
  have hts := atoms_spec (ws := wsX5_undo) B.pre
  have hown : s.vm.findClass RX5 = some m.cls := findClass_of_methodNamed B.named
  have hlocks := B.notSynchronized
  have hiX2 : ∀ w ∈ wsX20, w ∈ wsX5_undo := by decide +kernel
  have hiX5 : ∀ w ∈ wsX50, w ∈ wsX5_undo := by decide +kernel
  have hl := lv_entry ([.ref (ad 0)]) (n := 1) (Nat.le_of_ble_eq_true rfl)
  rw [lg_entry_eq]
  generalize (lg_sl ([.ref (ad 0)]) ++ List.replicate (1 - (lg_sl ([.ref (ad 0)])).length) Slot.unset).toArray = ls at hl ⊢
  have hl : lv_has ls 1 [(0, .ref (ad 0))] := hl
  unfold f_X5_undo at hf
  obtain ⟨H, eH⟩ : ∃ H, H = s.heap := ⟨_, rfl⟩
  obtain ⟨locs, eL⟩ : ∃ L : List Loc, L = [] := ⟨_, rfl⟩
  rw [← eH, ← eL] at hw ⊢
  clear eH eL
  have B15 : ∀ (O : XO) (K : RK) (y0 : Int32) (H : Heap) (locs : List Loc) (ls : Array Slot), f_X5_undo_b15 O K y0 = some (r, O', K') → WH D cI cR A (xws cI cR ad O K) s H locs → lv_has ls 1 [(0, .ref (ad 0))] → W p l e (headSpec wsX5_undo ({ frames := 5, cells := 0, slots := 0, locals := 105 })).room s m ([.ref (ad 0)] : List Value).toArray below meth c H locs 0 0 (MQ below (QV (some (.int r)) D A (xws cI cR ad O' K')) (([.ref (ad 0)] : List Value)).toArray s 0 0 A) (F0 m 15 ls [.int y0]) := by
    intro O K y0 H locs ls hf hw hl
    unfold f_X5_undo_b15 at hf
    obtain ⟨hg, hf⟩ := gdE hf
    refine q_callS (rest := []) (st1 := []) [.int y0] ⟨hx, hb, hml, hown, hts⟩ (c_X5_needState hg) (va_cwS 1 hts gX5_undo_X5_needState rfl rfl rfl (by decide +kernel) ⟨Nat.le_of_ble_eq_true rfl, Nat.le_of_ble_eq_true rfl⟩) hw rfl hl.1 rfl (Nat.le_of_ble_eq_true rfl) dX5_undo_15 ⟨Nat.zero_le _, Nat.zero_le _⟩ rfl (fun H locs hw => ?_)
    refine lv_aload_n hx hb dX5_undo_18 rfl (lv_at hl 0 rfl) ?_
    refine q_get hx hb hts hiX5 hown hw 0 xa_0 rfl 2 (by decide) (hts (.fieldLink RX5 22 "LaceRanks" "history" "LLaceRanks$History;") (by decide +kernel)) rfl dX5_undo_19 ?_
    refine lv_aload_n hx hb dX5_undo_22 rfl (lv_at hl 0 rfl) ?_
    refine q_get hx hb hts hiX5 hown hw 0 xa_0 rfl 0 (by decide) (hts (.fieldLink RX5 10 "LaceRanks" "now" "LLaceRanks$Carnival;") (by decide +kernel)) rfl dX5_undo_23 ?_
    obtain ⟨O1, K2, hr2, hf⟩ := bnd2S hf
    refine q_callVN (rest := []) (st1 := []) [.ref (ad 1)] ⟨hx, hb, hml, hown, hts⟩ (c_X2_bringBack hr2) ⟨va_cnB 1 hts gX5_undo_X2_bringBack_n185 rfl rfl rfl (nw_X5_185 hw.2.2.2.2) (hts (.initialized RX2) (by decide +kernel)) (by decide +kernel) ⟨Nat.le_of_ble_eq_true rfl, Nat.le_of_ble_eq_true rfl⟩, (hts (.instanceMethod yX2_bringBack) (by decide +kernel)), (hts (.selects RX2 yX2_bringBack yX2_bringBack) (by decide +kernel))⟩ hw xa_29 rfl rfl hl.1 rfl (Nat.le_of_ble_eq_true rfl) dX5_undo_26 ⟨Nat.zero_le _, Nat.zero_le _⟩ rfl (fun H locs hw => ?_)
    refine lv_aload_n hx hb dX5_undo_29 rfl (lv_at hl 0 rfl) ?_
    refine q_get hx hb hts hiX5 hown hw 0 xa_0 rfl 2 (by decide) (hts (.fieldLink RX5 22 "LaceRanks" "history" "LLaceRanks$History;") (by decide +kernel)) rfl dX5_undo_30 ?_
    refine q_getN hx hb hts hiX2 hown hw 29 xa_29 rfl 2 (by decide) (nw_X5_184 hw.2.2.2.2) rfl dX5_undo_33 ?_
    cases hf
    exact q_iret hx hb hr hlocks hw dX5_undo_36
  refine lv_aload_n hx hb dX5_undo_0 rfl (lv_at hl 0 rfl) ?_
  refine q_get hx hb hts hiX5 hown hw 0 xa_0 rfl 2 (by decide) (hts (.fieldLink RX5 22 "LaceRanks" "history" "LLaceRanks$History;") (by decide +kernel)) rfl dX5_undo_1 ?_
  refine q_getN hx hb hts hiX2 hown hw 29 xa_29 rfl 2 (by decide) (nw_X5_184 hw.2.2.2.2) rfl dX5_undo_4 ?_
  refine lv_if_le (tgt := 14) hx hb dX5_undo_7 (by decide) (fun hc => ?_) (fun hc => ?_)
  · have hf := iteT hf hc
    refine lv_iconst (v := 0) hx hb dX5_undo_14 (by decide) ?_
    exact B15 O K 0 H locs ls hf hw (lv_sub hl [0] rfl)
  · have hf := iteF hf hc
    refine lv_iconst (v := 1) hx hb dX5_undo_10 (by decide) ?_
    refine lv_goto (tgt := 15) hx hb dX5_undo_11 (by decide) ?_
    exact B15 O K 1 H locs ls hf hw (lv_sub hl [0] rfl)
