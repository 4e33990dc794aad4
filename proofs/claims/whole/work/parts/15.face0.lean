def f_X5_come_b49  (O : XO) (K : RK)  (x1 : Int32) (x2 : Int32) (x3 : Int32) (y0 : Int32) : Option (Nat ⊕ (Int32 × XO × RK)) := bx (f_need 3 y0) (fun _ => bnd (f_X2_save O K) (fun O2 => bnd2 (f_X0_welcome K x1 x2 x3) (fun r3 K4 => some (.inr (r3, O2, K4)))))
def f_X5_come (O : XO) (K : RK)  (a1 : Int32) (a2 : Int32) (a3 : Int32) : Option (Nat ⊕ (Int32 × XO × RK)) := bnd (f_X5_isWithin a1 0 4) (fun r1 => bx (f_need 2 r1) (fun _ => bnd (f_X5_isWithin a2 0 40) (fun r3 => bx (f_need 2 r3) (fun _ => bnd (f_X5_isWithin a3 0 99) (fun r5 => bx (f_need 2 r5) (fun _ => (if 10 ≤ (K 12 0) then f_X5_come_b49 O K a1 a2 a3 0 else f_X5_come_b49 O K a1 a2 a3 1)))))))
set_option maxHeartbeats 4000000 in
set_option maxRecDepth 100000 in
theorem c_X5_come {l : Launch} {D : va_G} {cI cR : ClassId} {ad : Nat → Nat} {A : Nat → Prop} {O : XO} {K : RK} {a1 : Int32} {a2 : Int32} {a3 : Int32} {res : Nat ⊕ (Int32 × XO × RK)} (htr : l.stackTraces = false) (hf : f_X5_come O K a1 a2 a3 = some res) : MX l yX5_come wsX5_come 7 115 4 24 D cI cR A [.ref (ad 0), .int a1, .int a2, .int a3] (xws cI cR ad O K) res (fun u : (Int32 × XO × RK) => some (.int u.1)) (fun u : (Int32 × XO × RK) => (xws cI cR ad u.2.1 u.2.2)) := by
  refine vx_ofW (cc := cX5_come) (maxL := 4) (ret := (some .int)) (by decide) rfl ?_
  intro p e s m args below meth c s₁ B hml hno hv
  obtain ⟨rfl, hw, hO, hA⟩ := x_start hv
  have hx := B.exec
  have hb := B.bytes
  have hr := B.returns
  have hts := atoms_spec (ws := wsX5_come) B.pre
  have hown : s.vm.findClass RX5 = some m.cls := findClass_of_methodNamed B.named
  have hlocks := B.notSynchronized
  have hiX0 : ∀ w ∈ wsX00, w ∈ wsX5_come := by decide +kernel
  have hiX1 : ∀ w ∈ wsX10, w ∈ wsX5_come := by decide +kernel
  have hiX5 : ∀ w ∈ wsX50, w ∈ wsX5_come := by decide +kernel
  have hl := lv_entry ([.ref (ad 0), .int a1, .int a2, .int a3]) (n := 4) (Nat.le_of_ble_eq_true rfl)
  rw [lg_entry_eq]
  generalize (lg_sl ([.ref (ad 0), .int a1, .int a2, .int a3]) ++ List.replicate (4 - (lg_sl ([.ref (ad 0), .int a1, .int a2, .int a3])).length) Slot.unset).toArray = ls at hl ⊢
  have hl : lv_has ls 4 [(0, .ref (ad 0)), (1, .int a1), (2, .int a2), (3, .int a3)] := hl
  unfold f_X5_come at hf
  obtain ⟨H, eH⟩ : ∃ H, H = s.heap := ⟨_, rfl⟩
  obtain ⟨locs, eL⟩ : ∃ L : List Loc, L = [] := ⟨_, rfl⟩
  rw [← eH, ← eL] at hw ⊢
  clear eH eL
  have B49 : ∀ (x1 : Int32) (x2 : Int32) (x3 : Int32) (y0 : Int32) (H : Heap) (locs : List Loc) (ls : Array Slot), f_X5_come_b49 O K x1 x2 x3 y0 = some res → WH D cI cR A (xws cI cR ad O K) s H locs → lv_has ls 4 [(0, .ref (ad 0)), (1, .int x1), (2, .int x2), (3, .int x3)] → W p l e (headSpec wsX5_come ({ frames := 7, cells := 4, slots := 24, locals := 115 })).room s m ([.ref (ad 0), .int a1, .int a2, .int a3] : List Value).toArray below meth c H locs 3 18 (vx_MQ below (QX res (fun u : (Int32 × XO × RK) => some (.int u.1)) (fun u : (Int32 × XO × RK) => (xws cI cR ad u.2.1 u.2.2)) D A) (XX res (xws cI cR ad O K) D A) (([.ref (ad 0), .int a1, .int a2, .int a3] : List Value)).toArray s 4 24 A) (F0 m 49 ls [.int y0]) := by
    intro x1 x2 x3 y0 H locs ls hf hw hl
    unfold f_X5_come_b49 at hf
    refine x_run (vx_runS (As := [.int y0]) (rest := []) ⟨hx, hb, hml, hown, hts⟩ (c_X5_needState htr) (va_cwS 1 hts gX5_come_X5_needState rfl rfl rfl (by decide +kernel) ⟨Nat.le_of_ble_eq_true rfl, Nat.le_of_ble_eq_true rfl⟩) (x_preS hw hO hA) rfl rfl hl.1 rfl (lv_room (Nat.le_of_ble_eq_true rfl)) dX5_come_49 ⟨Nat.le_of_ble_eq_true rfl, Nat.le_of_ble_eq_true rfl⟩) hw (fun k hk H locs q9 ce hw hq1 hq2 hq3 => ?_) (fun u9 hu H locs hw => ?_)
    · exact x_out (bxL hk hf) hno hlocks hw hq1 hq2 hq3 (Nat.le_of_ble_eq_true rfl) (Nat.le_of_ble_eq_true rfl)
    have hf := bxR hu hf
    refine W.eq (g2 := F0 m 52 ls []) rfl ?_
    refine lv_aload_n hx hb dX5_come_52 rfl (lv_at hl 0 rfl) ?_
    refine q_get hx hb hts hiX5 hown hw 0 xa_0 rfl 2 (by decide) (hts (.fieldLink RX5 22 "LaceRanks" "history" "LLaceRanks$History;") (by decide +kernel)) rfl dX5_come_53 ?_
    refine lv_aload_n hx hb dX5_come_56 rfl (lv_at hl 0 rfl) ?_
    refine q_get hx hb hts hiX5 hown hw 0 xa_0 rfl 0 (by decide) (hts (.fieldLink RX5 10 "LaceRanks" "now" "LLaceRanks$Carnival;") (by decide +kernel)) rfl dX5_come_57 ?_
    obtain ⟨O2, hr2, hf⟩ := bndS hf
    refine q_callVN (rest := []) (st1 := []) [.ref (ad 1)] ⟨hx, hb, hml, hown, hts⟩ (c_X2_save hr2) ⟨va_cnB 1 hts gX5_come_X2_save_n58 rfl rfl rfl (nw_X5_58 hw.2.2.2.2) (hts (.initialized RX2) (by decide +kernel)) (by decide +kernel) ⟨Nat.le_of_ble_eq_true rfl, Nat.le_of_ble_eq_true rfl⟩, (hts (.instanceMethod yX2_save) (by decide +kernel)), (hts (.selects RX2 yX2_save yX2_save) (by decide +kernel))⟩ hw xa_29 rfl rfl hl.1 rfl (Nat.le_of_ble_eq_true rfl) dX5_come_60 ⟨Nat.le_of_ble_eq_true rfl, Nat.le_of_ble_eq_true rfl⟩ rfl (fun H locs hw => ?_)
    refine lv_aload_n hx hb dX5_come_63 rfl (lv_at hl 0 rfl) ?_
    refine q_get hx hb hts hiX5 hown hw 0 xa_0 rfl 0 (by decide) (hts (.fieldLink RX5 10 "LaceRanks" "now" "LLaceRanks$Carnival;") (by decide +kernel)) rfl dX5_come_64 ?_
    refine lv_iload_n hx hb dX5_come_67 rfl (lv_at hl 1 rfl) ?_
    refine lv_iload_n hx hb dX5_come_68 rfl (lv_at hl 2 rfl) ?_
    refine lv_iload_n hx hb dX5_come_69 rfl (lv_at hl 3 rfl) ?_
    obtain ⟨r3, K4, hr4, hf⟩ := bnd2S hf
    refine q_callVN (rest := []) (st1 := [.int r3]) [.int x1, .int x2, .int x3] ⟨hx, hb, hml, hown, hts⟩ (c_X0_welcome hr4) ⟨va_cnB 3 hts gX5_come_X0_welcome_n62 rfl rfl rfl (nw_X5_62 hw.2.2.2.2) (hts (.initialized RX0) (by decide +kernel)) (by decide +kernel) ⟨Nat.le_of_ble_eq_true rfl, Nat.le_of_ble_eq_true rfl⟩, (hts (.instanceMethod yX0_welcome) (by decide +kernel)), (hts (.selects RX0 yX0_welcome yX0_welcome) (by decide +kernel))⟩ hw xa_1 rfl rfl hl.1 rfl (Nat.le_of_ble_eq_true rfl) dX5_come_70 ⟨Nat.le_of_ble_eq_true rfl, Nat.le_of_ble_eq_true rfl⟩ rfl (fun H locs hw => ?_)
    cases hf
    refine x_ret (Nat.le_of_ble_eq_true rfl) (Nat.le_of_ble_eq_true rfl) ?_
    exact x_iret (u := (r3, O2, K4)) rfl rfl hx hb hr hlocks hw dX5_come_73
  refine lv_iload_n hx hb dX5_come_0 rfl (lv_at hl 1 rfl) ?_
  refine lv_iconst (v := 0) hx hb dX5_come_1 (by decide) ?_
  refine lv_iconst (v := 4) hx hb dX5_come_2 (by decide) ?_
  obtain ⟨r1, hr1, hf⟩ := bndS hf
  refine q_callS (rest := []) (st1 := [.int r1]) [.int a1, .int 0, .int 4] ⟨hx, hb, hml, hown, hts⟩ (c_X5_isWithin hr1) (va_cwS 3 hts gX5_come_X5_isWithin rfl rfl rfl (by decide +kernel) ⟨Nat.le_of_ble_eq_true rfl, Nat.le_of_ble_eq_true rfl⟩) hw rfl hl.1 rfl (Nat.le_of_ble_eq_true rfl) dX5_come_3 ⟨Nat.le_of_ble_eq_true rfl, Nat.le_of_ble_eq_true rfl⟩ rfl (fun H locs hw => ?_)
  refine x_run (vx_runS (As := [.int r1]) (rest := []) ⟨hx, hb, hml, hown, hts⟩ (c_X5_needArgument htr) (va_cwS 1 hts gX5_come_X5_needArgument rfl rfl rfl (by decide +kernel) ⟨Nat.le_of_ble_eq_true rfl, Nat.le_of_ble_eq_true rfl⟩) (x_preS hw hO hA) rfl rfl hl.1 rfl (lv_room (Nat.le_of_ble_eq_true rfl)) dX5_come_6 ⟨Nat.le_of_ble_eq_true rfl, Nat.le_of_ble_eq_true rfl⟩) hw (fun k hk H locs q9 ce hw hq1 hq2 hq3 => ?_) (fun u9 hu H locs hw => ?_)
  · exact x_out (bxL hk hf) hno hlocks hw hq1 hq2 hq3 (Nat.le_of_ble_eq_true rfl) (Nat.le_of_ble_eq_true rfl)
  have hf := bxR hu hf
  refine W.eq (g2 := F0 m 9 ls []) rfl ?_
  refine lv_iload_n hx hb dX5_come_9 rfl (lv_at hl 2 rfl) ?_
  refine lv_iconst (v := 0) hx hb dX5_come_10 (by decide) ?_
  refine lv_bipush (v := 40) hx hb dX5_come_11 (by decide) ?_
  obtain ⟨r3, hr3, hf⟩ := bndS hf
  refine q_callS (rest := []) (st1 := [.int r3]) [.int a2, .int 0, .int 40] ⟨hx, hb, hml, hown, hts⟩ (c_X5_isWithin hr3) (va_cwS 3 hts gX5_come_X5_isWithin rfl rfl rfl (by decide +kernel) ⟨Nat.le_of_ble_eq_true rfl, Nat.le_of_ble_eq_true rfl⟩) hw rfl hl.1 rfl (Nat.le_of_ble_eq_true rfl) dX5_come_13 ⟨Nat.le_of_ble_eq_true rfl, Nat.le_of_ble_eq_true rfl⟩ rfl (fun H locs hw => ?_)
  refine x_run (vx_runS (As := [.int r3]) (rest := []) ⟨hx, hb, hml, hown, hts⟩ (c_X5_needArgument htr) (va_cwS 1 hts gX5_come_X5_needArgument rfl rfl rfl (by decide +kernel) ⟨Nat.le_of_ble_eq_true rfl, Nat.le_of_ble_eq_true rfl⟩) (x_preS hw hO hA) rfl rfl hl.1 rfl (lv_room (Nat.le_of_ble_eq_true rfl)) dX5_come_16 ⟨Nat.le_of_ble_eq_true rfl, Nat.le_of_ble_eq_true rfl⟩) hw (fun k hk H locs q9 ce hw hq1 hq2 hq3 => ?_) (fun u9 hu H locs hw => ?_)
  · exact x_out (bxL hk hf) hno hlocks hw hq1 hq2 hq3 (Nat.le_of_ble_eq_true rfl) (Nat.le_of_ble_eq_true rfl)
  have hf := bxR hu hf
  refine W.eq (g2 := F0 m 19 ls []) rfl ?_
  refine lv_iload_n hx hb dX5_come_19 rfl (lv_at hl 3 rfl) ?_
  refine lv_iconst (v := 0) hx hb dX5_come_20 (by decide) ?_
  refine lv_bipush (v := 99) hx hb dX5_come_21 (by decide) ?_
  obtain ⟨r5, hr5, hf⟩ := bndS hf
  refine q_callS (rest := []) (st1 := [.int r5]) [.int a3, .int 0, .int 99] ⟨hx, hb, hml, hown, hts⟩ (c_X5_isWithin hr5) (va_cwS 3 hts gX5_come_X5_isWithin rfl rfl rfl (by decide +kernel) ⟨Nat.le_of_ble_eq_true rfl, Nat.le_of_ble_eq_true rfl⟩) hw rfl hl.1 rfl (Nat.le_of_ble_eq_true rfl) dX5_come_23 ⟨Nat.le_of_ble_eq_true rfl, Nat.le_of_ble_eq_true rfl⟩ rfl (fun H locs hw => ?_)
  refine x_run (vx_runS (As := [.int r5]) (rest := []) ⟨hx, hb, hml, hown, hts⟩ (c_X5_needArgument htr) (va_cwS 1 hts gX5_come_X5_needArgument rfl rfl rfl (by decide +kernel) ⟨Nat.le_of_ble_eq_true rfl, Nat.le_of_ble_eq_true rfl⟩) (x_preS hw hO hA) rfl rfl hl.1 rfl (lv_room (Nat.le_of_ble_eq_true rfl)) dX5_come_26 ⟨Nat.le_of_ble_eq_true rfl, Nat.le_of_ble_eq_true rfl⟩) hw (fun k hk H locs q9 ce hw hq1 hq2 hq3 => ?_) (fun u9 hu H locs hw => ?_)
  · exact x_out (bxL hk hf) hno hlocks hw hq1 hq2 hq3 (Nat.le_of_ble_eq_true rfl) (Nat.le_of_ble_eq_true rfl)
  have hf := bxR hu hf
  refine W.eq (g2 := F0 m 29 ls []) rfl ?_
  refine lv_aload_n hx hb dX5_come_29 rfl (lv_at hl 0 rfl) ?_
  refine q_get hx hb hts hiX5 hown hw 0 xa_0 rfl 0 (by decide) (hts (.fieldLink RX5 10 "LaceRanks" "now" "LLaceRanks$Carnival;") (by decide +kernel)) rfl dX5_come_30 ?_
  refine q_getN hx hb hts hiX0 hown hw 1 xa_1 rfl 0 (by decide) (nw_X5_45 hw.2.2.2.2) rfl dX5_come_33 ?_
  refine q_getN hx hb hts hiX1 hown hw 2 xa_2 rfl 8 (by decide) (nw_X5_49 hw.2.2.2.2) rfl dX5_come_36 ?_
  refine lv_bipush (v := 10) hx hb dX5_come_39 (by decide) ?_
  refine lv_icmp_ge (tgt := 48) hx hb dX5_come_41 (by decide) (fun hc => ?_) (fun hc => ?_)
  · have hf := iteT hf hc
    refine lv_iconst (v := 0) hx hb dX5_come_48 (by decide) ?_
    exact B49 a1 a2 a3 0 H locs ls hf hw (lv_sub hl [0, 1, 2, 3] rfl)
  · have hf := iteF hf hc
    refine lv_iconst (v := 1) hx hb dX5_come_44 (by decide) ?_
    refine lv_goto (tgt := 49) hx hb dX5_come_45 (by decide) ?_
    exact B49 a1 a2 a3 1 H locs ls hf hw (lv_sub hl [0, 1, 2, 3] rfl)

def f_X5_leave (O : XO) (K : RK)  (a1 : Int32) : Option (Nat ⊕ (Int32 × XO × RK)) := bx (f_needG K a1) (fun _ => bnd (f_X0_canGo K a1) (fun r2 => bx (f_need 3 r2) (fun _ => bnd (f_X2_save O K) (fun O4 => bnd2 (f_X0_letGo K a1) (fun r5 K6 => some (.inr (r5, O4, K6)))))))
set_option maxHeartbeats 4000000 in
set_option maxRecDepth 100000 in
theorem c_X5_leave {l : Launch} {D : va_G} {cI cR : ClassId} {ad : Nat → Nat} {A : Nat → Prop} {O : XO} {K : RK} {a1 : Int32} {res : Nat ⊕ (Int32 × XO × RK)} (htr : l.stackTraces = false) (hf : f_X5_leave O K a1 = some res) : MX l yX5_leave wsX5_leave 7 116 2 12 D cI cR A [.ref (ad 0), .int a1] (xws cI cR ad O K) res (fun u : (Int32 × XO × RK) => some (.int u.1)) (fun u : (Int32 × XO × RK) => (xws cI cR ad u.2.1 u.2.2)) := by
  refine vx_ofW (cc := cX5_leave) (maxL := 2) (ret := (some .int)) (by decide) rfl ?_
  intro p e s m args below meth c s₁ B hml hno hv
  obtain ⟨rfl, hw, hO, hA⟩ := x_start hv
  have hx := B.exec
  have hb := B.bytes
  have hr := B.returns
  have hts := atoms_spec (ws := wsX5_leave) B.pre
  have hown : s.vm.findClass RX5 = some m.cls := findClass_of_methodNamed B.named
  have hlocks := B.notSynchronized
  have hiX5 : ∀ w ∈ wsX50, w ∈ wsX5_leave := by decide +kernel
  have hl := lv_entry ([.ref (ad 0), .int a1]) (n := 2) (Nat.le_of_ble_eq_true rfl)
  rw [lg_entry_eq]
  generalize (lg_sl ([.ref (ad 0), .int a1]) ++ List.replicate (2 - (lg_sl ([.ref (ad 0), .int a1])).length) Slot.unset).toArray = ls at hl ⊢
  have hl : lv_has ls 2 [(0, .ref (ad 0)), (1, .int a1)] := hl
  unfold f_X5_leave at hf
  obtain ⟨H, eH⟩ : ∃ H, H = s.heap := ⟨_, rfl⟩
  obtain ⟨locs, eL⟩ : ∃ L : List Loc, L = [] := ⟨_, rfl⟩
  rw [← eH, ← eL] at hw ⊢
  clear eH eL
  refine lv_aload_n hx hb dX5_leave_0 rfl (lv_at hl 0 rfl) ?_
  refine lv_iload_n hx hb dX5_leave_1 rfl (lv_at hl 1 rfl) ?_
  refine x_run (vx_runV (As := [.int a1]) (rest := []) ⟨hx, hb, hml, hown, hts⟩ (c_X5_needGuest htr) (cwV 1 hts gX5_leave_X5_needGuest rfl rfl rfl (by decide +kernel) ⟨Nat.le_of_ble_eq_true rfl, Nat.le_of_ble_eq_true rfl⟩) (x_preV hw hO hA xa_0 rfl) rfl rfl hl.1 rfl (lv_room (Nat.le_of_ble_eq_true rfl)) dX5_leave_2 ⟨Nat.le_of_ble_eq_true rfl, Nat.le_of_ble_eq_true rfl⟩) hw (fun k hk H locs q9 ce hw hq1 hq2 hq3 => ?_) (fun u9 hu H locs hw => ?_)
  · exact x_out (bxL hk hf) hno hlocks hw hq1 hq2 hq3 (Nat.le_of_ble_eq_true rfl) (Nat.le_of_ble_eq_true rfl)
  have hf := bxR hu hf
  refine W.eq (g2 := F0 m 5 ls []) rfl ?_
  refine lv_aload_n hx hb dX5_leave_5 rfl (lv_at hl 0 rfl) ?_
  refine q_get hx hb hts hiX5 hown hw 0 xa_0 rfl 0 (by decide) (hts (.fieldLink RX5 10 "LaceRanks" "now" "LLaceRanks$Carnival;") (by decide +kernel)) rfl dX5_leave_6 ?_
  refine lv_iload_n hx hb dX5_leave_9 rfl (lv_at hl 1 rfl) ?_
  obtain ⟨r2, hr2, hf⟩ := bndS hf
  refine q_callVN (rest := []) (st1 := [.int r2]) [.int a1] ⟨hx, hb, hml, hown, hts⟩ (c_X0_canGo hr2) ⟨va_cnB 1 hts gX5_leave_X0_canGo_n70 rfl rfl rfl (nw_X5_70 hw.2.2.2.2) (hts (.initialized RX0) (by decide +kernel)) (by decide +kernel) ⟨Nat.le_of_ble_eq_true rfl, Nat.le_of_ble_eq_true rfl⟩, (hts (.instanceMethod yX0_canGo) (by decide +kernel)), (hts (.selects RX0 yX0_canGo yX0_canGo) (by decide +kernel))⟩ hw xa_1 rfl rfl hl.1 rfl (Nat.le_of_ble_eq_true rfl) dX5_leave_10 ⟨Nat.le_of_ble_eq_true rfl, Nat.le_of_ble_eq_true rfl⟩ rfl (fun H locs hw => ?_)
  refine x_run (vx_runS (As := [.int r2]) (rest := []) ⟨hx, hb, hml, hown, hts⟩ (c_X5_needState htr) (va_cwS 1 hts gX5_leave_X5_needState rfl rfl rfl (by decide +kernel) ⟨Nat.le_of_ble_eq_true rfl, Nat.le_of_ble_eq_true rfl⟩) (x_preS hw hO hA) rfl rfl hl.1 rfl (lv_room (Nat.le_of_ble_eq_true rfl)) dX5_leave_13 ⟨Nat.le_of_ble_eq_true rfl, Nat.le_of_ble_eq_true rfl⟩) hw (fun k hk H locs q9 ce hw hq1 hq2 hq3 => ?_) (fun u9 hu H locs hw => ?_)
  · exact x_out (bxL hk hf) hno hlocks hw hq1 hq2 hq3 (Nat.le_of_ble_eq_true rfl) (Nat.le_of_ble_eq_true rfl)
  have hf := bxR hu hf
  refine W.eq (g2 := F0 m 16 ls []) rfl ?_
  refine lv_aload_n hx hb dX5_leave_16 rfl (lv_at hl 0 rfl) ?_
  refine q_get hx hb hts hiX5 hown hw 0 xa_0 rfl 2 (by decide) (hts (.fieldLink RX5 22 "LaceRanks" "history" "LLaceRanks$History;") (by decide +kernel)) rfl dX5_leave_17 ?_
  refine lv_aload_n hx hb dX5_leave_20 rfl (lv_at hl 0 rfl) ?_
  refine q_get hx hb hts hiX5 hown hw 0 xa_0 rfl 0 (by decide) (hts (.fieldLink RX5 10 "LaceRanks" "now" "LLaceRanks$Carnival;") (by decide +kernel)) rfl dX5_leave_21 ?_
  obtain ⟨O4, hr4, hf⟩ := bndS hf
  refine q_callVN (rest := []) (st1 := []) [.ref (ad 1)] ⟨hx, hb, hml, hown, hts⟩ (c_X2_save hr4) ⟨va_cnB 1 hts gX5_leave_X2_save_n58 rfl rfl rfl (nw_X5_58 hw.2.2.2.2) (hts (.initialized RX2) (by decide +kernel)) (by decide +kernel) ⟨Nat.le_of_ble_eq_true rfl, Nat.le_of_ble_eq_true rfl⟩, (hts (.instanceMethod yX2_save) (by decide +kernel)), (hts (.selects RX2 yX2_save yX2_save) (by decide +kernel))⟩ hw xa_29 rfl rfl hl.1 rfl (Nat.le_of_ble_eq_true rfl) dX5_leave_24 ⟨Nat.le_of_ble_eq_true rfl, Nat.le_of_ble_eq_true rfl⟩ rfl (fun H locs hw => ?_)
  refine lv_aload_n hx hb dX5_leave_27 rfl (lv_at hl 0 rfl) ?_
  refine q_get hx hb hts hiX5 hown hw 0 xa_0 rfl 0 (by decide) (hts (.fieldLink RX5 10 "LaceRanks" "now" "LLaceRanks$Carnival;") (by decide +kernel)) rfl dX5_leave_28 ?_
  refine lv_iload_n hx hb dX5_leave_31 rfl (lv_at hl 1 rfl) ?_
  obtain ⟨r5, K6, hr6, hf⟩ := bnd2S hf
  refine q_callVN (rest := []) (st1 := [.int r5]) [.int a1] ⟨hx, hb, hml, hown, hts⟩ (c_X0_letGo hr6) ⟨va_cnB 1 hts gX5_leave_X0_letGo_n74 rfl rfl rfl (nw_X5_74 hw.2.2.2.2) (hts (.initialized RX0) (by decide +kernel)) (by decide +kernel) ⟨Nat.le_of_ble_eq_true rfl, Nat.le_of_ble_eq_true rfl⟩, (hts (.instanceMethod yX0_letGo) (by decide +kernel)), (hts (.selects RX0 yX0_letGo yX0_letGo) (by decide +kernel))⟩ hw xa_1 rfl rfl hl.1 rfl (Nat.le_of_ble_eq_true rfl) dX5_leave_32 ⟨Nat.le_of_ble_eq_true rfl, Nat.le_of_ble_eq_true rfl⟩ rfl (fun H locs hw => ?_)
  cases hf
  refine x_ret (Nat.le_of_ble_eq_true rfl) (Nat.le_of_ble_eq_true rfl) ?_
  exact x_iret (u := (r5, O4, K6)) rfl rfl hx hb hr hlocks hw dX5_leave_35

def f_X5_earn (O : XO) (K : RK)  (a1 : Int32) (a2 : Int32) : Option (Nat ⊕ (Int32 × XO × RK)) := bx (f_needG K a1) (fun _ => bnd (f_X5_isWithin a2 1 99) (fun r2 => bx (f_need 2 r2) (fun _ => bnd (f_X2_save O K) (fun O4 => bnd2 (f_X0_giveWages K a1 a2) (fun r5 K6 => some (.inr (r5, O4, K6)))))))
set_option maxHeartbeats 4000000 in
set_option maxRecDepth 100000 in
theorem c_X5_earn {l : Launch} {D : va_G} {cI cR : ClassId} {ad : Nat → Nat} {A : Nat → Prop} {O : XO} {K : RK} {a1 : Int32} {a2 : Int32} {res : Nat ⊕ (Int32 × XO × RK)} (htr : l.stackTraces = false) (hf : f_X5_earn O K a1 a2 = some res) : MX l yX5_earn wsX5_earn 7 116 2 12 D cI cR A [.ref (ad 0), .int a1, .int a2] (xws cI cR ad O K) res (fun u : (Int32 × XO × RK) => some (.int u.1)) (fun u : (Int32 × XO × RK) => (xws cI cR ad u.2.1 u.2.2)) := by
  refine vx_ofW (cc := cX5_earn) (maxL := 3) (ret := (some .int)) (by decide) rfl ?_
  intro p e s m args below meth c s₁ B hml hno hv
  obtain ⟨rfl, hw, hO, hA⟩ := x_start hv
  have hx := B.exec
  have hb := B.bytes
  have hr := B.returns
  have hts := atoms_spec (ws := wsX5_earn) B.pre
  have hown : s.vm.findClass RX5 = some m.cls := findClass_of_methodNamed B.named
  have hlocks := B.notSynchronized
  have hiX5 : ∀ w ∈ wsX50, w ∈ wsX5_earn := by decide +kernel
  have hl := lv_entry ([.ref (ad 0), .int a1, .int a2]) (n := 3) (Nat.le_of_ble_eq_true rfl)
  rw [lg_entry_eq]
  generalize (lg_sl ([.ref (ad 0), .int a1, .int a2]) ++ List.replicate (3 - (lg_sl ([.ref (ad 0), .int a1, .int a2])).length) Slot.unset).toArray = ls at hl ⊢
  have hl : lv_has ls 3 [(0, .ref (ad 0)), (1, .int a1), (2, .int a2)] := hl
  unfold f_X5_earn at hf
  obtain ⟨H, eH⟩ : ∃ H, H = s.heap := ⟨_, rfl⟩
  obtain ⟨locs, eL⟩ : ∃ L : List Loc, L = [] := ⟨_, rfl⟩
  rw [← eH, ← eL] at hw ⊢
  clear eH eL
  refine lv_aload_n hx hb dX5_earn_0 rfl (lv_at hl 0 rfl) ?_
  refine lv_iload_n hx hb dX5_earn_1 rfl (lv_at hl 1 rfl) ?_
  refine x_run (vx_runV (As := [.int a1]) (rest := []) ⟨hx, hb, hml, hown, hts⟩ (c_X5_needGuest htr) (cwV 1 hts gX5_earn_X5_needGuest rfl rfl rfl (by decide +kernel) ⟨Nat.le_of_ble_eq_true rfl, Nat.le_of_ble_eq_true rfl⟩) (x_preV hw hO hA xa_0 rfl) rfl rfl hl.1 rfl (lv_room (Nat.le_of_ble_eq_true rfl)) dX5_earn_2 ⟨Nat.le_of_ble_eq_true rfl, Nat.le_of_ble_eq_true rfl⟩) hw (fun k hk H locs q9 ce hw hq1 hq2 hq3 => ?_) (fun u9 hu H locs hw => ?_)
  · exact x_out (bxL hk hf) hno hlocks hw hq1 hq2 hq3 (Nat.le_of_ble_eq_true rfl) (Nat.le_of_ble_eq_true rfl)
  have hf := bxR hu hf
  refine W.eq (g2 := F0 m 5 ls []) rfl ?_
  refine lv_iload_n hx hb dX5_earn_5 rfl (lv_at hl 2 rfl) ?_
  refine lv_iconst (v := 1) hx hb dX5_earn_6 (by decide) ?_
  refine lv_bipush (v := 99) hx hb dX5_earn_7 (by decide) ?_
  obtain ⟨r2, hr2, hf⟩ := bndS hf
  refine q_callS (rest := []) (st1 := [.int r2]) [.int a2, .int 1, .int 99] ⟨hx, hb, hml, hown, hts⟩ (c_X5_isWithin hr2) (va_cwS 3 hts gX5_earn_X5_isWithin rfl rfl rfl (by decide +kernel) ⟨Nat.le_of_ble_eq_true rfl, Nat.le_of_ble_eq_true rfl⟩) hw rfl hl.1 rfl (Nat.le_of_ble_eq_true rfl) dX5_earn_9 ⟨Nat.le_of_ble_eq_true rfl, Nat.le_of_ble_eq_true rfl⟩ rfl (fun H locs hw => ?_)
  refine x_run (vx_runS (As := [.int r2]) (rest := []) ⟨hx, hb, hml, hown, hts⟩ (c_X5_needArgument htr) (va_cwS 1 hts gX5_earn_X5_needArgument rfl rfl rfl (by decide +kernel) ⟨Nat.le_of_ble_eq_true rfl, Nat.le_of_ble_eq_true rfl⟩) (x_preS hw hO hA) rfl rfl hl.1 rfl (lv_room (Nat.le_of_ble_eq_true rfl)) dX5_earn_12 ⟨Nat.le_of_ble_eq_true rfl, Nat.le_of_ble_eq_true rfl⟩) hw (fun k hk H locs q9 ce hw hq1 hq2 hq3 => ?_) (fun u9 hu H locs hw => ?_)
  · exact x_out (bxL hk hf) hno hlocks hw hq1 hq2 hq3 (Nat.le_of_ble_eq_true rfl) (Nat.le_of_ble_eq_true rfl)
  have hf := bxR hu hf
  refine W.eq (g2 := F0 m 15 ls []) rfl ?_
  refine lv_aload_n hx hb dX5_earn_15 rfl (lv_at hl 0 rfl) ?_
  refine q_get hx hb hts hiX5 hown hw 0 xa_0 rfl 2 (by decide) (hts (.fieldLink RX5 22 "LaceRanks" "history" "LLaceRanks$History;") (by decide +kernel)) rfl dX5_earn_16 ?_
  refine lv_aload_n hx hb dX5_earn_19 rfl (lv_at hl 0 rfl) ?_
  refine q_get hx hb hts hiX5 hown hw 0 xa_0 rfl 0 (by decide) (hts (.fieldLink RX5 10 "LaceRanks" "now" "LLaceRanks$Carnival;") (by decide +kernel)) rfl dX5_earn_20 ?_
  obtain ⟨O4, hr4, hf⟩ := bndS hf
  refine q_callVN (rest := []) (st1 := []) [.ref (ad 1)] ⟨hx, hb, hml, hown, hts⟩ (c_X2_save hr4) ⟨va_cnB 1 hts gX5_earn_X2_save_n58 rfl rfl rfl (nw_X5_58 hw.2.2.2.2) (hts (.initialized RX2) (by decide +kernel)) (by decide +kernel) ⟨Nat.le_of_ble_eq_true rfl, Nat.le_of_ble_eq_true rfl⟩, (hts (.instanceMethod yX2_save) (by decide +kernel)), (hts (.selects RX2 yX2_save yX2_save) (by decide +kernel))⟩ hw xa_29 rfl rfl hl.1 rfl (Nat.le_of_ble_eq_true rfl) dX5_earn_23 ⟨Nat.le_of_ble_eq_true rfl, Nat.le_of_ble_eq_true rfl⟩ rfl (fun H locs hw => ?_)
  refine lv_aload_n hx hb dX5_earn_26 rfl (lv_at hl 0 rfl) ?_
  refine q_get hx hb hts hiX5 hown hw 0 xa_0 rfl 0 (by decide) (hts (.fieldLink RX5 10 "LaceRanks" "now" "LLaceRanks$Carnival;") (by decide +kernel)) rfl dX5_earn_27 ?_
  refine lv_iload_n hx hb dX5_earn_30 rfl (lv_at hl 1 rfl) ?_
  refine lv_iload_n hx hb dX5_earn_31 rfl (lv_at hl 2 rfl) ?_
  obtain ⟨r5, K6, hr6, hf⟩ := bnd2S hf
  refine q_callVN (rest := []) (st1 := [.int r5]) [.int a1, .int a2] ⟨hx, hb, hml, hown, hts⟩ (c_X0_giveWages hr6) ⟨va_cnB 2 hts gX5_earn_X0_giveWages_n78 rfl rfl rfl (nw_X5_78 hw.2.2.2.2) (hts (.initialized RX0) (by decide +kernel)) (by decide +kernel) ⟨Nat.le_of_ble_eq_true rfl, Nat.le_of_ble_eq_true rfl⟩, (hts (.instanceMethod yX0_giveWages) (by decide +kernel)), (hts (.selects RX0 yX0_giveWages yX0_giveWages) (by decide +kernel))⟩ hw xa_1 rfl rfl hl.1 rfl (Nat.le_of_ble_eq_true rfl) dX5_earn_32 ⟨Nat.le_of_ble_eq_true rfl, Nat.le_of_ble_eq_true rfl⟩ rfl (fun H locs hw => ?_)
  cases hf
  refine x_ret (Nat.le_of_ble_eq_true rfl) (Nat.le_of_ble_eq_true rfl) ?_
  exact x_iret (u := (r5, O4, K6)) rfl rfl hx hb hr hlocks hw dX5_earn_35

def f_X5_lend_b30  (O : XO) (K : RK)  (x1 : Int32) (x2 : Int32) (y0 : Int32) : Option (Nat ⊕ (Int32 × XO × RK)) := bx (f_need 3 y0) (fun _ => bnd (f_X2_save O K) (fun O2 => bnd (f_X1_lendCoat K x1 x2) (fun K3 => nm (at_ 10 (K3 3) x1) (fun r4 => some (.inr (r4, O2, K3))))))
def f_X5_lend (O : XO) (K : RK)  (a1 : Int32) (a2 : Int32) : Option (Nat ⊕ (Int32 × XO × RK)) := bx (f_needG K a1) (fun _ => bx (f_needG K a2) (fun _ => bnd (f_X1_reasonNoLoan K a1 a2) (fun r3 => (if r3 = 0 then f_X5_lend_b30 O K a1 a2 1 else f_X5_lend_b30 O K a1 a2 0))))
set_option maxHeartbeats 4000000 in
set_option maxRecDepth 100000 in
theorem c_X5_lend {l : Launch} {D : va_G} {cI cR : ClassId} {ad : Nat → Nat} {A : Nat → Prop} {O : XO} {K : RK} {a1 : Int32} {a2 : Int32} {res : Nat ⊕ (Int32 × XO × RK)} (htr : l.stackTraces = false) (hf : f_X5_lend O K a1 a2 = some res) : MX l yX5_lend wsX5_lend 7 116 3 18 D cI cR A [.ref (ad 0), .int a1, .int a2] (xws cI cR ad O K) res (fun u : (Int32 × XO × RK) => some (.int u.1)) (fun u : (Int32 × XO × RK) => (xws cI cR ad u.2.1 u.2.2)) := by
  refine vx_ofW (cc := cX5_lend) (maxL := 3) (ret := (some .int)) (by decide) rfl ?_
  intro p e s m args below meth c s₁ B hml hno hv
  obtain ⟨rfl, hw, hO, hA⟩ := x_start hv
  have hx := B.exec
  have hb := B.bytes
  have hr := B.returns
  have hts := atoms_spec (ws := wsX5_lend) B.pre
  have hown : s.vm.findClass RX5 = some m.cls := findClass_of_methodNamed B.named
  have hlocks := B.notSynchronized
  have hiX0 : ∀ w ∈ wsX00, w ∈ wsX5_lend := by decide +kernel
  have hiX1 : ∀ w ∈ wsX10, w ∈ wsX5_lend := by decide +kernel
  have hiX5 : ∀ w ∈ wsX50, w ∈ wsX5_lend := by decide +kernel
  have hl := lv_entry ([.ref (ad 0), .int a1, .int a2]) (n := 3) (Nat.le_of_ble_eq_true rfl)
  rw [lg_entry_eq]
  generalize (lg_sl ([.ref (ad 0), .int a1, .int a2]) ++ List.replicate (3 - (lg_sl ([.ref (ad 0), .int a1, .int a2])).length) Slot.unset).toArray = ls at hl ⊢
  have hl : lv_has ls 3 [(0, .ref (ad 0)), (1, .int a1), (2, .int a2)] := hl
  unfold f_X5_lend at hf
  obtain ⟨H, eH⟩ : ∃ H, H = s.heap := ⟨_, rfl⟩
  obtain ⟨locs, eL⟩ : ∃ L : List Loc, L = [] := ⟨_, rfl⟩
  rw [← eH, ← eL] at hw ⊢
  clear eH eL
  have B30 : ∀ (x1 : Int32) (x2 : Int32) (y0 : Int32) (H : Heap) (locs : List Loc) (ls : Array Slot), f_X5_lend_b30 O K x1 x2 y0 = some res → WH D cI cR A (xws cI cR ad O K) s H locs → lv_has ls 3 [(0, .ref (ad 0)), (1, .int x1), (2, .int x2)] → W p l e (headSpec wsX5_lend ({ frames := 7, cells := 3, slots := 18, locals := 116 })).room s m ([.ref (ad 0), .int a1, .int a2] : List Value).toArray below meth c H locs 2 12 (vx_MQ below (QX res (fun u : (Int32 × XO × RK) => some (.int u.1)) (fun u : (Int32 × XO × RK) => (xws cI cR ad u.2.1 u.2.2)) D A) (XX res (xws cI cR ad O K) D A) (([.ref (ad 0), .int a1, .int a2] : List Value)).toArray s 3 18 A) (F0 m 30 ls [.int y0]) := by
    intro x1 x2 y0 H locs ls hf hw hl
    unfold f_X5_lend_b30 at hf
    refine x_run (vx_runS (As := [.int y0]) (rest := []) ⟨hx, hb, hml, hown, hts⟩ (c_X5_needState htr) (va_cwS 1 hts gX5_lend_X5_needState rfl rfl rfl (by decide +kernel) ⟨Nat.le_of_ble_eq_true rfl, Nat.le_of_ble_eq_true rfl⟩) (x_preS hw hO hA) rfl rfl hl.1 rfl (lv_room (Nat.le_of_ble_eq_true rfl)) dX5_lend_30 ⟨Nat.le_of_ble_eq_true rfl, Nat.le_of_ble_eq_true rfl⟩) hw (fun k hk H locs q9 ce hw hq1 hq2 hq3 => ?_) (fun u9 hu H locs hw => ?_)
    · exact x_out (bxL hk hf) hno hlocks hw hq1 hq2 hq3 (Nat.le_of_ble_eq_true rfl) (Nat.le_of_ble_eq_true rfl)
    have hf := bxR hu hf
    refine W.eq (g2 := F0 m 33 ls []) rfl ?_
    refine lv_aload_n hx hb dX5_lend_33 rfl (lv_at hl 0 rfl) ?_
    refine q_get hx hb hts hiX5 hown hw 0 xa_0 rfl 2 (by decide) (hts (.fieldLink RX5 22 "LaceRanks" "history" "LLaceRanks$History;") (by decide +kernel)) rfl dX5_lend_34 ?_
    refine lv_aload_n hx hb dX5_lend_37 rfl (lv_at hl 0 rfl) ?_
    refine q_get hx hb hts hiX5 hown hw 0 xa_0 rfl 0 (by decide) (hts (.fieldLink RX5 10 "LaceRanks" "now" "LLaceRanks$Carnival;") (by decide +kernel)) rfl dX5_lend_38 ?_
    obtain ⟨O2, hr2, hf⟩ := bndS hf
    refine q_callVN (rest := []) (st1 := []) [.ref (ad 1)] ⟨hx, hb, hml, hown, hts⟩ (c_X2_save hr2) ⟨va_cnB 1 hts gX5_lend_X2_save_n58 rfl rfl rfl (nw_X5_58 hw.2.2.2.2) (hts (.initialized RX2) (by decide +kernel)) (by decide +kernel) ⟨Nat.le_of_ble_eq_true rfl, Nat.le_of_ble_eq_true rfl⟩, (hts (.instanceMethod yX2_save) (by decide +kernel)), (hts (.selects RX2 yX2_save yX2_save) (by decide +kernel))⟩ hw xa_29 rfl rfl hl.1 rfl (Nat.le_of_ble_eq_true rfl) dX5_lend_41 ⟨Nat.le_of_ble_eq_true rfl, Nat.le_of_ble_eq_true rfl⟩ rfl (fun H locs hw => ?_)
    refine lv_aload_n hx hb dX5_lend_44 rfl (lv_at hl 0 rfl) ?_
    refine q_get hx hb hts hiX5 hown hw 0 xa_0 rfl 0 (by decide) (hts (.fieldLink RX5 10 "LaceRanks" "now" "LLaceRanks$Carnival;") (by decide +kernel)) rfl dX5_lend_45 ?_
    refine q_getN hx hb hts hiX0 hown hw 1 xa_1 rfl 0 (by decide) (nw_X5_45 hw.2.2.2.2) rfl dX5_lend_48 ?_
    refine lv_iload_n hx hb dX5_lend_51 rfl (lv_at hl 1 rfl) ?_
    refine lv_iload_n hx hb dX5_lend_52 rfl (lv_at hl 2 rfl) ?_
    obtain ⟨K3, hr3, hf⟩ := bndS hf
    refine q_callVN (rest := []) (st1 := []) [.int x1, .int x2] ⟨hx, hb, hml, hown, hts⟩ (c_X1_lendCoat hr3) ⟨va_cnB 2 hts gX5_lend_X1_lendCoat_n85 rfl rfl rfl (nw_X5_85 hw.2.2.2.2) (hts (.initialized RX1) (by decide +kernel)) (by decide +kernel) ⟨Nat.le_of_ble_eq_true rfl, Nat.le_of_ble_eq_true rfl⟩, (hts (.instanceMethod yX1_lendCoat) (by decide +kernel)), (hts (.selects RX1 yX1_lendCoat yX1_lendCoat) (by decide +kernel))⟩ hw xa_2 rfl rfl hl.1 rfl (Nat.le_of_ble_eq_true rfl) dX5_lend_53 ⟨Nat.le_of_ble_eq_true rfl, Nat.le_of_ble_eq_true rfl⟩ rfl (fun H locs hw => ?_)
    refine lv_aload_n hx hb dX5_lend_56 rfl (lv_at hl 0 rfl) ?_
    refine q_get hx hb hts hiX5 hown hw 0 xa_0 rfl 0 (by decide) (hts (.fieldLink RX5 10 "LaceRanks" "now" "LLaceRanks$Carnival;") (by decide +kernel)) rfl dX5_lend_57 ?_
    refine q_getN hx hb hts hiX0 hown hw 1 xa_1 rfl 0 (by decide) (nw_X5_45 hw.2.2.2.2) rfl dX5_lend_60 ?_
    refine q_getN hx hb hts hiX1 hown hw 2 xa_2 rfl 3 (by decide) (nw_X5_89 hw.2.2.2.2) rfl dX5_lend_63 ?_
    refine lv_iload_n hx hb dX5_lend_66 rfl (lv_at hl 1 rfl) ?_
    obtain ⟨r4, hr4, hf⟩ := nmE hf
    refine q_callS (rest := []) (st1 := [.int r4]) [.ref (ad 6), .int x1] ⟨hx, hb, hml, hown, hts⟩ (c_X5_at (q0 := 6) xa_6 hr4) (va_cwS 2 hts gX5_lend_X5_at rfl rfl rfl (by decide +kernel) ⟨Nat.le_of_ble_eq_true rfl, Nat.le_of_ble_eq_true rfl⟩) hw rfl hl.1 rfl (Nat.le_of_ble_eq_true rfl) dX5_lend_67 ⟨Nat.le_of_ble_eq_true rfl, Nat.le_of_ble_eq_true rfl⟩ rfl (fun H locs hw => ?_)
    cases hf
    refine x_ret (Nat.le_of_ble_eq_true rfl) (Nat.le_of_ble_eq_true rfl) ?_
    exact x_iret (u := (r4, O2, K3)) rfl rfl hx hb hr hlocks hw dX5_lend_70
  refine lv_aload_n hx hb dX5_lend_0 rfl (lv_at hl 0 rfl) ?_
  refine lv_iload_n hx hb dX5_lend_1 rfl (lv_at hl 1 rfl) ?_
  refine x_run (vx_runV (As := [.int a1]) (rest := []) ⟨hx, hb, hml, hown, hts⟩ (c_X5_needGuest htr) (cwV 1 hts gX5_lend_X5_needGuest rfl rfl rfl (by decide +kernel) ⟨Nat.le_of_ble_eq_true rfl, Nat.le_of_ble_eq_true rfl⟩) (x_preV hw hO hA xa_0 rfl) rfl rfl hl.1 rfl (lv_room (Nat.le_of_ble_eq_true rfl)) dX5_lend_2 ⟨Nat.le_of_ble_eq_true rfl, Nat.le_of_ble_eq_true rfl⟩) hw (fun k hk H locs q9 ce hw hq1 hq2 hq3 => ?_) (fun u9 hu H locs hw => ?_)
  · exact x_out (bxL hk hf) hno hlocks hw hq1 hq2 hq3 (Nat.le_of_ble_eq_true rfl) (Nat.le_of_ble_eq_true rfl)
  have hf := bxR hu hf
  refine W.eq (g2 := F0 m 5 ls []) rfl ?_
  refine lv_aload_n hx hb dX5_lend_5 rfl (lv_at hl 0 rfl) ?_
  refine lv_iload_n hx hb dX5_lend_6 rfl (lv_at hl 2 rfl) ?_
  refine x_run (vx_runV (As := [.int a2]) (rest := []) ⟨hx, hb, hml, hown, hts⟩ (c_X5_needGuest htr) (cwV 1 hts gX5_lend_X5_needGuest rfl rfl rfl (by decide +kernel) ⟨Nat.le_of_ble_eq_true rfl, Nat.le_of_ble_eq_true rfl⟩) (x_preV hw hO hA xa_0 rfl) rfl rfl hl.1 rfl (lv_room (Nat.le_of_ble_eq_true rfl)) dX5_lend_7 ⟨Nat.le_of_ble_eq_true rfl, Nat.le_of_ble_eq_true rfl⟩) hw (fun k hk H locs q9 ce hw hq1 hq2 hq3 => ?_) (fun u9 hu H locs hw => ?_)
  · exact x_out (bxL hk hf) hno hlocks hw hq1 hq2 hq3 (Nat.le_of_ble_eq_true rfl) (Nat.le_of_ble_eq_true rfl)
  have hf := bxR hu hf
  refine W.eq (g2 := F0 m 10 ls []) rfl ?_
  refine lv_aload_n hx hb dX5_lend_10 rfl (lv_at hl 0 rfl) ?_
  refine q_get hx hb hts hiX5 hown hw 0 xa_0 rfl 0 (by decide) (hts (.fieldLink RX5 10 "LaceRanks" "now" "LLaceRanks$Carnival;") (by decide +kernel)) rfl dX5_lend_11 ?_
  refine q_getN hx hb hts hiX0 hown hw 1 xa_1 rfl 0 (by decide) (nw_X5_45 hw.2.2.2.2) rfl dX5_lend_14 ?_
  refine lv_iload_n hx hb dX5_lend_17 rfl (lv_at hl 1 rfl) ?_
  refine lv_iload_n hx hb dX5_lend_18 rfl (lv_at hl 2 rfl) ?_
  obtain ⟨r3, hr3, hf⟩ := bndS hf
  refine q_callVN (rest := []) (st1 := [.int r3]) [.int a1, .int a2] ⟨hx, hb, hml, hown, hts⟩ (c_X1_reasonNoLoan hr3) ⟨va_cnB 2 hts gX5_lend_X1_reasonNoLoan_n82 rfl rfl rfl (nw_X5_82 hw.2.2.2.2) (hts (.initialized RX1) (by decide +kernel)) (by decide +kernel) ⟨Nat.le_of_ble_eq_true rfl, Nat.le_of_ble_eq_true rfl⟩, (hts (.instanceMethod yX1_reasonNoLoan) (by decide +kernel)), (hts (.selects RX1 yX1_reasonNoLoan yX1_reasonNoLoan) (by decide +kernel))⟩ hw xa_2 rfl rfl hl.1 rfl (Nat.le_of_ble_eq_true rfl) dX5_lend_19 ⟨Nat.le_of_ble_eq_true rfl, Nat.le_of_ble_eq_true rfl⟩ rfl (fun H locs hw => ?_)
  refine lv_if_ne (tgt := 29) hx hb dX5_lend_22 (by decide) (fun hc => ?_) (fun hc => ?_)
  · have hf := iteF hf hc
    refine lv_iconst (v := 0) hx hb dX5_lend_29 (by decide) ?_
    exact B30 a1 a2 0 H locs ls hf hw (lv_sub hl [0, 1, 2] rfl)
  · have hf := iteT hf hc
    refine lv_iconst (v := 1) hx hb dX5_lend_25 (by decide) ?_
    refine lv_goto (tgt := 30) hx hb dX5_lend_26 (by decide) ?_
    exact B30 a1 a2 1 H locs ls hf hw (lv_sub hl [0, 1, 2] rfl)

def f_X5_giveBack (O : XO) (K : RK)  (a1 : Int32) : Option (Nat ⊕ (Int32 × XO × RK)) := bx (f_needG K a1) (fun _ => bnd (f_X1_canReturnCoat K a1) (fun r2 => bx (f_need 3 r2) (fun _ => bnd (f_X2_save O K) (fun O4 => bnd2 (f_X1_returnCoat K a1) (fun r5 K6 => some (.inr (r5, O4, K6)))))))
set_option maxHeartbeats 4000000 in
set_option maxRecDepth 100000 in
theorem c_X5_giveBack {l : Launch} {D : va_G} {cI cR : ClassId} {ad : Nat → Nat} {A : Nat → Prop} {O : XO} {K : RK} {a1 : Int32} {res : Nat ⊕ (Int32 × XO × RK)} (htr : l.stackTraces = false) (hf : f_X5_giveBack O K a1 = some res) : MX l yX5_giveBack wsX5_giveBack 7 116 2 12 D cI cR A [.ref (ad 0), .int a1] (xws cI cR ad O K) res (fun u : (Int32 × XO × RK) => some (.int u.1)) (fun u : (Int32 × XO × RK) => (xws cI cR ad u.2.1 u.2.2)) := by
  refine vx_ofW (cc := cX5_giveBack) (maxL := 2) (ret := (some .int)) (by decide) rfl ?_
  intro p e s m args below meth c s₁ B hml hno hv
  obtain ⟨rfl, hw, hO, hA⟩ := x_start hv
  have hx := B.exec
  have hb := B.bytes
  have hr := B.returns
  have hts := atoms_spec (ws := wsX5_giveBack) B.pre
  have hown : s.vm.findClass RX5 = some m.cls := findClass_of_methodNamed B.named
  have hlocks := B.notSynchronized
  have hiX0 : ∀ w ∈ wsX00, w ∈ wsX5_giveBack := by decide +kernel
  have hiX5 : ∀ w ∈ wsX50, w ∈ wsX5_giveBack := by decide +kernel
  have hl := lv_entry ([.ref (ad 0), .int a1]) (n := 2) (Nat.le_of_ble_eq_true rfl)
  rw [lg_entry_eq]
  generalize (lg_sl ([.ref (ad 0), .int a1]) ++ List.replicate (2 - (lg_sl ([.ref (ad 0), .int a1])).length) Slot.unset).toArray = ls at hl ⊢
  have hl : lv_has ls 2 [(0, .ref (ad 0)), (1, .int a1)] := hl
  unfold f_X5_giveBack at hf
  obtain ⟨H, eH⟩ : ∃ H, H = s.heap := ⟨_, rfl⟩
  obtain ⟨locs, eL⟩ : ∃ L : List Loc, L = [] := ⟨_, rfl⟩
  rw [← eH, ← eL] at hw ⊢
  clear eH eL
  refine lv_aload_n hx hb dX5_giveBack_0 rfl (lv_at hl 0 rfl) ?_
  refine lv_iload_n hx hb dX5_giveBack_1 rfl (lv_at hl 1 rfl) ?_
  refine x_run (vx_runV (As := [.int a1]) (rest := []) ⟨hx, hb, hml, hown, hts⟩ (c_X5_needGuest htr) (cwV 1 hts gX5_giveBack_X5_needGuest rfl rfl rfl (by decide +kernel) ⟨Nat.le_of_ble_eq_true rfl, Nat.le_of_ble_eq_true rfl⟩) (x_preV hw hO hA xa_0 rfl) rfl rfl hl.1 rfl (lv_room (Nat.le_of_ble_eq_true rfl)) dX5_giveBack_2 ⟨Nat.le_of_ble_eq_true rfl, Nat.le_of_ble_eq_true rfl⟩) hw (fun k hk H locs q9 ce hw hq1 hq2 hq3 => ?_) (fun u9 hu H locs hw => ?_)
  · exact x_out (bxL hk hf) hno hlocks hw hq1 hq2 hq3 (Nat.le_of_ble_eq_true rfl) (Nat.le_of_ble_eq_true rfl)
  have hf := bxR hu hf
  refine W.eq (g2 := F0 m 5 ls []) rfl ?_
  refine lv_aload_n hx hb dX5_giveBack_5 rfl (lv_at hl 0 rfl) ?_
  refine q_get hx hb hts hiX5 hown hw 0 xa_0 rfl 0 (by decide) (hts (.fieldLink RX5 10 "LaceRanks" "now" "LLaceRanks$Carnival;") (by decide +kernel)) rfl dX5_giveBack_6 ?_
  refine q_getN hx hb hts hiX0 hown hw 1 xa_1 rfl 0 (by decide) (nw_X5_45 hw.2.2.2.2) rfl dX5_giveBack_9 ?_
  refine lv_iload_n hx hb dX5_giveBack_12 rfl (lv_at hl 1 rfl) ?_
  obtain ⟨r2, hr2, hf⟩ := bndS hf
  refine q_callVN (rest := []) (st1 := [.int r2]) [.int a1] ⟨hx, hb, hml, hown, hts⟩ (c_X1_canReturnCoat hr2) ⟨va_cnB 1 hts gX5_giveBack_X1_canReturnCoat_n97 rfl rfl rfl (nw_X5_97 hw.2.2.2.2) (hts (.initialized RX1) (by decide +kernel)) (by decide +kernel) ⟨Nat.le_of_ble_eq_true rfl, Nat.le_of_ble_eq_true rfl⟩, (hts (.instanceMethod yX1_canReturnCoat) (by decide +kernel)), (hts (.selects RX1 yX1_canReturnCoat yX1_canReturnCoat) (by decide +kernel))⟩ hw xa_2 rfl rfl hl.1 rfl (Nat.le_of_ble_eq_true rfl) dX5_giveBack_13 ⟨Nat.le_of_ble_eq_true rfl, Nat.le_of_ble_eq_true rfl⟩ rfl (fun H locs hw => ?_)
  refine x_run (vx_runS (As := [.int r2]) (rest := []) ⟨hx, hb, hml, hown, hts⟩ (c_X5_needState htr) (va_cwS 1 hts gX5_giveBack_X5_needState rfl rfl rfl (by decide +kernel) ⟨Nat.le_of_ble_eq_true rfl, Nat.le_of_ble_eq_true rfl⟩) (x_preS hw hO hA) rfl rfl hl.1 rfl (lv_room (Nat.le_of_ble_eq_true rfl)) dX5_giveBack_16 ⟨Nat.le_of_ble_eq_true rfl, Nat.le_of_ble_eq_true rfl⟩) hw (fun k hk H locs q9 ce hw hq1 hq2 hq3 => ?_) (fun u9 hu H locs hw => ?_)
  · exact x_out (bxL hk hf) hno hlocks hw hq1 hq2 hq3 (Nat.le_of_ble_eq_true rfl) (Nat.le_of_ble_eq_true rfl)
  have hf := bxR hu hf
  refine W.eq (g2 := F0 m 19 ls []) rfl ?_
  refine lv_aload_n hx hb dX5_giveBack_19 rfl (lv_at hl 0 rfl) ?_
  refine q_get hx hb hts hiX5 hown hw 0 xa_0 rfl 2 (by decide) (hts (.fieldLink RX5 22 "LaceRanks" "history" "LLaceRanks$History;") (by decide +kernel)) rfl dX5_giveBack_20 ?_
  refine lv_aload_n hx hb dX5_giveBack_23 rfl (lv_at hl 0 rfl) ?_
  refine q_get hx hb hts hiX5 hown hw 0 xa_0 rfl 0 (by decide) (hts (.fieldLink RX5 10 "LaceRanks" "now" "LLaceRanks$Carnival;") (by decide +kernel)) rfl dX5_giveBack_24 ?_
  obtain ⟨O4, hr4, hf⟩ := bndS hf
  refine q_callVN (rest := []) (st1 := []) [.ref (ad 1)] ⟨hx, hb, hml, hown, hts⟩ (c_X2_save hr4) ⟨va_cnB 1 hts gX5_giveBack_X2_save_n58 rfl rfl rfl (nw_X5_58 hw.2.2.2.2) (hts (.initialized RX2) (by decide +kernel)) (by decide +kernel) ⟨Nat.le_of_ble_eq_true rfl, Nat.le_of_ble_eq_true rfl⟩, (hts (.instanceMethod yX2_save) (by decide +kernel)), (hts (.selects RX2 yX2_save yX2_save) (by decide +kernel))⟩ hw xa_29 rfl rfl hl.1 rfl (Nat.le_of_ble_eq_true rfl) dX5_giveBack_27 ⟨Nat.le_of_ble_eq_true rfl, Nat.le_of_ble_eq_true rfl⟩ rfl (fun H locs hw => ?_)
  refine lv_aload_n hx hb dX5_giveBack_30 rfl (lv_at hl 0 rfl) ?_
  refine q_get hx hb hts hiX5 hown hw 0 xa_0 rfl 0 (by decide) (hts (.fieldLink RX5 10 "LaceRanks" "now" "LLaceRanks$Carnival;") (by decide +kernel)) rfl dX5_giveBack_31 ?_
  refine q_getN hx hb hts hiX0 hown hw 1 xa_1 rfl 0 (by decide) (nw_X5_45 hw.2.2.2.2) rfl dX5_giveBack_34 ?_
  refine lv_iload_n hx hb dX5_giveBack_37 rfl (lv_at hl 1 rfl) ?_
  obtain ⟨r5, K6, hr6, hf⟩ := bnd2S hf
  refine q_callVN (rest := []) (st1 := [.int r5]) [.int a1] ⟨hx, hb, hml, hown, hts⟩ (c_X1_returnCoat hr6) ⟨va_cnB 1 hts gX5_giveBack_X1_returnCoat_n100 rfl rfl rfl (nw_X5_100 hw.2.2.2.2) (hts (.initialized RX1) (by decide +kernel)) (by decide +kernel) ⟨Nat.le_of_ble_eq_true rfl, Nat.le_of_ble_eq_true rfl⟩, (hts (.instanceMethod yX1_returnCoat) (by decide +kernel)), (hts (.selects RX1 yX1_returnCoat yX1_returnCoat) (by decide +kernel))⟩ hw xa_2 rfl rfl hl.1 rfl (Nat.le_of_ble_eq_true rfl) dX5_giveBack_38 ⟨Nat.le_of_ble_eq_true rfl, Nat.le_of_ble_eq_true rfl⟩ rfl (fun H locs hw => ?_)
  cases hf
  refine x_ret (Nat.le_of_ble_eq_true rfl) (Nat.le_of_ble_eq_true rfl) ?_
  exact x_iret (u := (r5, O4, K6)) rfl rfl hx hb hr hlocks hw dX5_giveBack_41

def f_X5_mask_b21  (O : XO) (K : RK)  (x1 : Int32) (y0 : Int32) : Option (Nat ⊕ (Int32 × XO × RK)) := bx (f_need 3 y0) (fun _ => bnd (f_X2_save O K) (fun O2 => bnd (f_X0_takeMask K x1) (fun K3 => nm (at_ 10 (K3 1) x1) (fun r4 => some (.inr (r4, O2, K3))))))
def f_X5_mask (O : XO) (K : RK)  (a1 : Int32) : Option (Nat ⊕ (Int32 × XO × RK)) := bx (f_needG K a1) (fun _ => bnd (f_X0_reasonNoMask K a1) (fun r2 => (if r2 = 0 then f_X5_mask_b21 O K a1 1 else f_X5_mask_b21 O K a1 0)))
set_option maxHeartbeats 4000000 in
set_option maxRecDepth 100000 in
theorem c_X5_mask {l : Launch} {D : va_G} {cI cR : ClassId} {ad : Nat → Nat} {A : Nat → Prop} {O : XO} {K : RK} {a1 : Int32} {res : Nat ⊕ (Int32 × XO × RK)} (htr : l.stackTraces = false) (hf : f_X5_mask O K a1 = some res) : MX l yX5_mask wsX5_mask 7 116 2 12 D cI cR A [.ref (ad 0), .int a1] (xws cI cR ad O K) res (fun u : (Int32 × XO × RK) => some (.int u.1)) (fun u : (Int32 × XO × RK) => (xws cI cR ad u.2.1 u.2.2)) := by
  refine vx_ofW (cc := cX5_mask) (maxL := 2) (ret := (some .int)) (by decide) rfl ?_
  intro p e s m args below meth c s₁ B hml hno hv
  obtain ⟨rfl, hw, hO, hA⟩ := x_start hv
  have hx := B.exec
  have hb := B.bytes
  have hr := B.returns
  have hts := atoms_spec (ws := wsX5_mask) B.pre
  have hown : s.vm.findClass RX5 = some m.cls := findClass_of_methodNamed B.named
  have hlocks := B.notSynchronized
  have hiX0 : ∀ w ∈ wsX00, w ∈ wsX5_mask := by decide +kernel
  have hiX1 : ∀ w ∈ wsX10, w ∈ wsX5_mask := by decide +kernel
  have hiX5 : ∀ w ∈ wsX50, w ∈ wsX5_mask := by decide +kernel
  have hl := lv_entry ([.ref (ad 0), .int a1]) (n := 2) (Nat.le_of_ble_eq_true rfl)
  rw [lg_entry_eq]
  generalize (lg_sl ([.ref (ad 0), .int a1]) ++ List.replicate (2 - (lg_sl ([.ref (ad 0), .int a1])).length) Slot.unset).toArray = ls at hl ⊢
  have hl : lv_has ls 2 [(0, .ref (ad 0)), (1, .int a1)] := hl
  unfold f_X5_mask at hf
  obtain ⟨H, eH⟩ : ∃ H, H = s.heap := ⟨_, rfl⟩
  obtain ⟨locs, eL⟩ : ∃ L : List Loc, L = [] := ⟨_, rfl⟩
  rw [← eH, ← eL] at hw ⊢
  clear eH eL
  have B21 : ∀ (x1 : Int32) (y0 : Int32) (H : Heap) (locs : List Loc) (ls : Array Slot), f_X5_mask_b21 O K x1 y0 = some res → WH D cI cR A (xws cI cR ad O K) s H locs → lv_has ls 2 [(0, .ref (ad 0)), (1, .int x1)] → W p l e (headSpec wsX5_mask ({ frames := 7, cells := 2, slots := 12, locals := 116 })).room s m ([.ref (ad 0), .int a1] : List Value).toArray below meth c H locs 1 6 (vx_MQ below (QX res (fun u : (Int32 × XO × RK) => some (.int u.1)) (fun u : (Int32 × XO × RK) => (xws cI cR ad u.2.1 u.2.2)) D A) (XX res (xws cI cR ad O K) D A) (([.ref (ad 0), .int a1] : List Value)).toArray s 2 12 A) (F0 m 21 ls [.int y0]) := by
    intro x1 y0 H locs ls hf hw hl
    unfold f_X5_mask_b21 at hf
    refine x_run (vx_runS (As := [.int y0]) (rest := []) ⟨hx, hb, hml, hown, hts⟩ (c_X5_needState htr) (va_cwS 1 hts gX5_mask_X5_needState rfl rfl rfl (by decide +kernel) ⟨Nat.le_of_ble_eq_true rfl, Nat.le_of_ble_eq_true rfl⟩) (x_preS hw hO hA) rfl rfl hl.1 rfl (lv_room (Nat.le_of_ble_eq_true rfl)) dX5_mask_21 ⟨Nat.le_of_ble_eq_true rfl, Nat.le_of_ble_eq_true rfl⟩) hw (fun k hk H locs q9 ce hw hq1 hq2 hq3 => ?_) (fun u9 hu H locs hw => ?_)
    · exact x_out (bxL hk hf) hno hlocks hw hq1 hq2 hq3 (Nat.le_of_ble_eq_true rfl) (Nat.le_of_ble_eq_true rfl)
    have hf := bxR hu hf
    refine W.eq (g2 := F0 m 24 ls []) rfl ?_
    refine lv_aload_n hx hb dX5_mask_24 rfl (lv_at hl 0 rfl) ?_
    refine q_get hx hb hts hiX5 hown hw 0 xa_0 rfl 2 (by decide) (hts (.fieldLink RX5 22 "LaceRanks" "history" "LLaceRanks$History;") (by decide +kernel)) rfl dX5_mask_25 ?_
    refine lv_aload_n hx hb dX5_mask_28 rfl (lv_at hl 0 rfl) ?_
    refine q_get hx hb hts hiX5 hown hw 0 xa_0 rfl 0 (by decide) (hts (.fieldLink RX5 10 "LaceRanks" "now" "LLaceRanks$Carnival;") (by decide +kernel)) rfl dX5_mask_29 ?_
    obtain ⟨O2, hr2, hf⟩ := bndS hf
    refine q_callVN (rest := []) (st1 := []) [.ref (ad 1)] ⟨hx, hb, hml, hown, hts⟩ (c_X2_save hr2) ⟨va_cnB 1 hts gX5_mask_X2_save_n58 rfl rfl rfl (nw_X5_58 hw.2.2.2.2) (hts (.initialized RX2) (by decide +kernel)) (by decide +kernel) ⟨Nat.le_of_ble_eq_true rfl, Nat.le_of_ble_eq_true rfl⟩, (hts (.instanceMethod yX2_save) (by decide +kernel)), (hts (.selects RX2 yX2_save yX2_save) (by decide +kernel))⟩ hw xa_29 rfl rfl hl.1 rfl (Nat.le_of_ble_eq_true rfl) dX5_mask_32 ⟨Nat.le_of_ble_eq_true rfl, Nat.le_of_ble_eq_true rfl⟩ rfl (fun H locs hw => ?_)
    refine lv_aload_n hx hb dX5_mask_35 rfl (lv_at hl 0 rfl) ?_
    refine q_get hx hb hts hiX5 hown hw 0 xa_0 rfl 0 (by decide) (hts (.fieldLink RX5 10 "LaceRanks" "now" "LLaceRanks$Carnival;") (by decide +kernel)) rfl dX5_mask_36 ?_
    refine lv_iload_n hx hb dX5_mask_39 rfl (lv_at hl 1 rfl) ?_
    obtain ⟨K3, hr3, hf⟩ := bndS hf
    refine q_callVN (rest := []) (st1 := []) [.int x1] ⟨hx, hb, hml, hown, hts⟩ (c_X0_takeMask hr3) ⟨va_cnB 1 hts gX5_mask_X0_takeMask_n106 rfl rfl rfl (nw_X5_106 hw.2.2.2.2) (hts (.initialized RX0) (by decide +kernel)) (by decide +kernel) ⟨Nat.le_of_ble_eq_true rfl, Nat.le_of_ble_eq_true rfl⟩, (hts (.instanceMethod yX0_takeMask) (by decide +kernel)), (hts (.selects RX0 yX0_takeMask yX0_takeMask) (by decide +kernel))⟩ hw xa_1 rfl rfl hl.1 rfl (Nat.le_of_ble_eq_true rfl) dX5_mask_40 ⟨Nat.le_of_ble_eq_true rfl, Nat.le_of_ble_eq_true rfl⟩ rfl (fun H locs hw => ?_)
    refine lv_aload_n hx hb dX5_mask_43 rfl (lv_at hl 0 rfl) ?_
    refine q_get hx hb hts hiX5 hown hw 0 xa_0 rfl 0 (by decide) (hts (.fieldLink RX5 10 "LaceRanks" "now" "LLaceRanks$Carnival;") (by decide +kernel)) rfl dX5_mask_44 ?_
    refine q_getN hx hb hts hiX0 hown hw 1 xa_1 rfl 0 (by decide) (nw_X5_45 hw.2.2.2.2) rfl dX5_mask_47 ?_
    refine q_getN hx hb hts hiX1 hown hw 2 xa_2 rfl 1 (by decide) (nw_X5_109 hw.2.2.2.2) rfl dX5_mask_50 ?_
    refine lv_iload_n hx hb dX5_mask_53 rfl (lv_at hl 1 rfl) ?_
    obtain ⟨r4, hr4, hf⟩ := nmE hf
    refine q_callS (rest := []) (st1 := [.int r4]) [.ref (ad 4), .int x1] ⟨hx, hb, hml, hown, hts⟩ (c_X5_at (q0 := 4) xa_4 hr4) (va_cwS 2 hts gX5_mask_X5_at rfl rfl rfl (by decide +kernel) ⟨Nat.le_of_ble_eq_true rfl, Nat.le_of_ble_eq_true rfl⟩) hw rfl hl.1 rfl (Nat.le_of_ble_eq_true rfl) dX5_mask_54 ⟨Nat.le_of_ble_eq_true rfl, Nat.le_of_ble_eq_true rfl⟩ rfl (fun H locs hw => ?_)
    cases hf
    refine x_ret (Nat.le_of_ble_eq_true rfl) (Nat.le_of_ble_eq_true rfl) ?_
    exact x_iret (u := (r4, O2, K3)) rfl rfl hx hb hr hlocks hw dX5_mask_57
  refine lv_aload_n hx hb dX5_mask_0 rfl (lv_at hl 0 rfl) ?_
  refine lv_iload_n hx hb dX5_mask_1 rfl (lv_at hl 1 rfl) ?_
  refine x_run (vx_runV (As := [.int a1]) (rest := []) ⟨hx, hb, hml, hown, hts⟩ (c_X5_needGuest htr) (cwV 1 hts gX5_mask_X5_needGuest rfl rfl rfl (by decide +kernel) ⟨Nat.le_of_ble_eq_true rfl, Nat.le_of_ble_eq_true rfl⟩) (x_preV hw hO hA xa_0 rfl) rfl rfl hl.1 rfl (lv_room (Nat.le_of_ble_eq_true rfl)) dX5_mask_2 ⟨Nat.le_of_ble_eq_true rfl, Nat.le_of_ble_eq_true rfl⟩) hw (fun k hk H locs q9 ce hw hq1 hq2 hq3 => ?_) (fun u9 hu H locs hw => ?_)
  · exact x_out (bxL hk hf) hno hlocks hw hq1 hq2 hq3 (Nat.le_of_ble_eq_true rfl) (Nat.le_of_ble_eq_true rfl)
  have hf := bxR hu hf
  refine W.eq (g2 := F0 m 5 ls []) rfl ?_
  refine lv_aload_n hx hb dX5_mask_5 rfl (lv_at hl 0 rfl) ?_
  refine q_get hx hb hts hiX5 hown hw 0 xa_0 rfl 0 (by decide) (hts (.fieldLink RX5 10 "LaceRanks" "now" "LLaceRanks$Carnival;") (by decide +kernel)) rfl dX5_mask_6 ?_
  refine lv_iload_n hx hb dX5_mask_9 rfl (lv_at hl 1 rfl) ?_
  obtain ⟨r2, hr2, hf⟩ := bndS hf
  refine q_callVN (rest := []) (st1 := [.int r2]) [.int a1] ⟨hx, hb, hml, hown, hts⟩ (c_X0_reasonNoMask hr2) ⟨va_cnB 1 hts gX5_mask_X0_reasonNoMask_n103 rfl rfl rfl (nw_X5_103 hw.2.2.2.2) (hts (.initialized RX0) (by decide +kernel)) (by decide +kernel) ⟨Nat.le_of_ble_eq_true rfl, Nat.le_of_ble_eq_true rfl⟩, (hts (.instanceMethod yX0_reasonNoMask) (by decide +kernel)), (hts (.selects RX0 yX0_reasonNoMask yX0_reasonNoMask) (by decide +kernel))⟩ hw xa_1 rfl rfl hl.1 rfl (Nat.le_of_ble_eq_true rfl) dX5_mask_10 ⟨Nat.le_of_ble_eq_true rfl, Nat.le_of_ble_eq_true rfl⟩ rfl (fun H locs hw => ?_)
  refine lv_if_ne (tgt := 20) hx hb dX5_mask_13 (by decide) (fun hc => ?_) (fun hc => ?_)
  · have hf := iteF hf hc
    refine lv_iconst (v := 0) hx hb dX5_mask_20 (by decide) ?_
    exact B21 a1 0 H locs ls hf hw (lv_sub hl [0, 1] rfl)
  · have hf := iteT hf hc
    refine lv_iconst (v := 1) hx hb dX5_mask_16 (by decide) ?_
    refine lv_goto (tgt := 21) hx hb dX5_mask_17 (by decide) ?_
    exact B21 a1 1 H locs ls hf hw (lv_sub hl [0, 1] rfl)

def f_X5_pay (O : XO) (K : RK)  (a1 : Int32) : Option (Nat ⊕ (Int32 × XO × RK)) := bx (f_needG K a1) (fun _ => bnd (f_X2_save O K) (fun O2 => bnd (f_X0_payDebts K a1) (fun K3 => nm (at_ 10 (K3 2) a1) (fun r4 => some (.inr (r4, O2, K3))))))
set_option maxHeartbeats 4000000 in
set_option maxRecDepth 100000 in
theorem c_X5_pay {l : Launch} {D : va_G} {cI cR : ClassId} {ad : Nat → Nat} {A : Nat → Prop} {O : XO} {K : RK} {a1 : Int32} {res : Nat ⊕ (Int32 × XO × RK)} (htr : l.stackTraces = false) (hf : f_X5_pay O K a1 = some res) : MX l yX5_pay wsX5_pay 7 116 1 6 D cI cR A [.ref (ad 0), .int a1] (xws cI cR ad O K) res (fun u : (Int32 × XO × RK) => some (.int u.1)) (fun u : (Int32 × XO × RK) => (xws cI cR ad u.2.1 u.2.2)) := by
  refine vx_ofW (cc := cX5_pay) (maxL := 2) (ret := (some .int)) (by decide) rfl ?_
  intro p e s m args below meth c s₁ B hml hno hv
  obtain ⟨rfl, hw, hO, hA⟩ := x_start hv
  have hx := B.exec
  have hb := B.bytes
  have hr := B.returns
  have hts := atoms_spec (ws := wsX5_pay) B.pre
  have hown : s.vm.findClass RX5 = some m.cls := findClass_of_methodNamed B.named
  have hlocks := B.notSynchronized
  have hiX0 : ∀ w ∈ wsX00, w ∈ wsX5_pay := by decide +kernel
  have hiX1 : ∀ w ∈ wsX10, w ∈ wsX5_pay := by decide +kernel
  have hiX5 : ∀ w ∈ wsX50, w ∈ wsX5_pay := by decide +kernel
  have hl := lv_entry ([.ref (ad 0), .int a1]) (n := 2) (Nat.le_of_ble_eq_true rfl)
  rw [lg_entry_eq]
  generalize (lg_sl ([.ref (ad 0), .int a1]) ++ List.replicate (2 - (lg_sl ([.ref (ad 0), .int a1])).length) Slot.unset).toArray = ls at hl ⊢
  have hl : lv_has ls 2 [(0, .ref (ad 0)), (1, .int a1)] := hl
  unfold f_X5_pay at hf
  obtain ⟨H, eH⟩ : ∃ H, H = s.heap := ⟨_, rfl⟩
  obtain ⟨locs, eL⟩ : ∃ L : List Loc, L = [] := ⟨_, rfl⟩
  rw [← eH, ← eL] at hw ⊢
  clear eH eL
  refine lv_aload_n hx hb dX5_pay_0 rfl (lv_at hl 0 rfl) ?_
  refine lv_iload_n hx hb dX5_pay_1 rfl (lv_at hl 1 rfl) ?_
  refine x_run (vx_runV (As := [.int a1]) (rest := []) ⟨hx, hb, hml, hown, hts⟩ (c_X5_needGuest htr) (cwV 1 hts gX5_pay_X5_needGuest rfl rfl rfl (by decide +kernel) ⟨Nat.le_of_ble_eq_true rfl, Nat.le_of_ble_eq_true rfl⟩) (x_preV hw hO hA xa_0 rfl) rfl rfl hl.1 rfl (lv_room (Nat.le_of_ble_eq_true rfl)) dX5_pay_2 ⟨Nat.le_of_ble_eq_true rfl, Nat.le_of_ble_eq_true rfl⟩) hw (fun k hk H locs q9 ce hw hq1 hq2 hq3 => ?_) (fun u9 hu H locs hw => ?_)
  · exact x_out (bxL hk hf) hno hlocks hw hq1 hq2 hq3 (Nat.le_of_ble_eq_true rfl) (Nat.le_of_ble_eq_true rfl)
  have hf := bxR hu hf
  refine W.eq (g2 := F0 m 5 ls []) rfl ?_
  refine lv_aload_n hx hb dX5_pay_5 rfl (lv_at hl 0 rfl) ?_
  refine q_get hx hb hts hiX5 hown hw 0 xa_0 rfl 2 (by decide) (hts (.fieldLink RX5 22 "LaceRanks" "history" "LLaceRanks$History;") (by decide +kernel)) rfl dX5_pay_6 ?_
  refine lv_aload_n hx hb dX5_pay_9 rfl (lv_at hl 0 rfl) ?_
  refine q_get hx hb hts hiX5 hown hw 0 xa_0 rfl 0 (by decide) (hts (.fieldLink RX5 10 "LaceRanks" "now" "LLaceRanks$Carnival;") (by decide +kernel)) rfl dX5_pay_10 ?_
  obtain ⟨O2, hr2, hf⟩ := bndS hf
  refine q_callVN (rest := []) (st1 := []) [.ref (ad 1)] ⟨hx, hb, hml, hown, hts⟩ (c_X2_save hr2) ⟨va_cnB 1 hts gX5_pay_X2_save_n58 rfl rfl rfl (nw_X5_58 hw.2.2.2.2) (hts (.initialized RX2) (by decide +kernel)) (by decide +kernel) ⟨Nat.le_of_ble_eq_true rfl, Nat.le_of_ble_eq_true rfl⟩, (hts (.instanceMethod yX2_save) (by decide +kernel)), (hts (.selects RX2 yX2_save yX2_save) (by decide +kernel))⟩ hw xa_29 rfl rfl hl.1 rfl (Nat.le_of_ble_eq_true rfl) dX5_pay_13 ⟨Nat.le_of_ble_eq_true rfl, Nat.le_of_ble_eq_true rfl⟩ rfl (fun H locs hw => ?_)
  refine lv_aload_n hx hb dX5_pay_16 rfl (lv_at hl 0 rfl) ?_
  refine q_get hx hb hts hiX5 hown hw 0 xa_0 rfl 0 (by decide) (hts (.fieldLink RX5 10 "LaceRanks" "now" "LLaceRanks$Carnival;") (by decide +kernel)) rfl dX5_pay_17 ?_
  refine lv_iload_n hx hb dX5_pay_20 rfl (lv_at hl 1 rfl) ?_
  obtain ⟨K3, hr3, hf⟩ := bndS hf
  refine q_callVN (rest := []) (st1 := []) [.int a1] ⟨hx, hb, hml, hown, hts⟩ (c_X0_payDebts hr3) ⟨va_cnB 1 hts gX5_pay_X0_payDebts_n112 rfl rfl rfl (nw_X5_112 hw.2.2.2.2) (hts (.initialized RX0) (by decide +kernel)) (by decide +kernel) ⟨Nat.le_of_ble_eq_true rfl, Nat.le_of_ble_eq_true rfl⟩, (hts (.instanceMethod yX0_payDebts) (by decide +kernel)), (hts (.selects RX0 yX0_payDebts yX0_payDebts) (by decide +kernel))⟩ hw xa_1 rfl rfl hl.1 rfl (Nat.le_of_ble_eq_true rfl) dX5_pay_21 ⟨Nat.le_of_ble_eq_true rfl, Nat.le_of_ble_eq_true rfl⟩ rfl (fun H locs hw => ?_)
  refine lv_aload_n hx hb dX5_pay_24 rfl (lv_at hl 0 rfl) ?_
  refine q_get hx hb hts hiX5 hown hw 0 xa_0 rfl 0 (by decide) (hts (.fieldLink RX5 10 "LaceRanks" "now" "LLaceRanks$Carnival;") (by decide +kernel)) rfl dX5_pay_25 ?_
  refine q_getN hx hb hts hiX0 hown hw 1 xa_1 rfl 0 (by decide) (nw_X5_45 hw.2.2.2.2) rfl dX5_pay_28 ?_
  refine q_getN hx hb hts hiX1 hown hw 2 xa_2 rfl 2 (by decide) (nw_X5_115 hw.2.2.2.2) rfl dX5_pay_31 ?_
  refine lv_iload_n hx hb dX5_pay_34 rfl (lv_at hl 1 rfl) ?_
  obtain ⟨r4, hr4, hf⟩ := nmE hf
  refine q_callS (rest := []) (st1 := [.int r4]) [.ref (ad 5), .int a1] ⟨hx, hb, hml, hown, hts⟩ (c_X5_at (q0 := 5) xa_5 hr4) (va_cwS 2 hts gX5_pay_X5_at rfl rfl rfl (by decide +kernel) ⟨Nat.le_of_ble_eq_true rfl, Nat.le_of_ble_eq_true rfl⟩) hw rfl hl.1 rfl (Nat.le_of_ble_eq_true rfl) dX5_pay_35 ⟨Nat.le_of_ble_eq_true rfl, Nat.le_of_ble_eq_true rfl⟩ rfl (fun H locs hw => ?_)
  cases hf
  refine x_ret (Nat.le_of_ble_eq_true rfl) (Nat.le_of_ble_eq_true rfl) ?_
  exact x_iret (u := (r4, O2, K3)) rfl rfl hx hb hr hlocks hw dX5_pay_38

def f_X5_queue_b28  (O : XO) (K : RK)  (x1 : Int32) (x2 : Int32) (y0 : Int32) : Option (Nat ⊕ (Int32 × XO × RK)) := bx (f_need 3 y0) (fun _ => bnd (f_X2_save O K) (fun O2 => bnd2 (f_X3_enter K x1 x2) (fun r3 K4 => some (.inr (r3, O2, K4)))))
def f_X5_queue (O : XO) (K : RK)  (a1 : Int32) (a2 : Int32) : Option (Nat ⊕ (Int32 × XO × RK)) := bx (f_needG K a1) (fun _ => bnd (f_X5_isGate a2) (fun r2 => bx (f_need 1 r2) (fun _ => bnd (f_X0_reasonNoLine K a1) (fun r4 => (if r4 = 0 then f_X5_queue_b28 O K a1 a2 1 else f_X5_queue_b28 O K a1 a2 0)))))
set_option maxHeartbeats 4000000 in
set_option maxRecDepth 100000 in
theorem c_X5_queue {l : Launch} {D : va_G} {cI cR : ClassId} {ad : Nat → Nat} {A : Nat → Prop} {O : XO} {K : RK} {a1 : Int32} {a2 : Int32} {res : Nat ⊕ (Int32 × XO × RK)} (htr : l.stackTraces = false) (hf : f_X5_queue O K a1 a2 = some res) : MX l yX5_queue wsX5_queue 7 116 3 18 D cI cR A [.ref (ad 0), .int a1, .int a2] (xws cI cR ad O K) res (fun u : (Int32 × XO × RK) => some (.int u.1)) (fun u : (Int32 × XO × RK) => (xws cI cR ad u.2.1 u.2.2)) := by
  refine vx_ofW (cc := cX5_queue) (maxL := 3) (ret := (some .int)) (by decide) rfl ?_
  intro p e s m args below meth c s₁ B hml hno hv
  obtain ⟨rfl, hw, hO, hA⟩ := x_start hv
  have hx := B.exec
  have hb := B.bytes
  have hr := B.returns
  have hts := atoms_spec (ws := wsX5_queue) B.pre
  have hown : s.vm.findClass RX5 = some m.cls := findClass_of_methodNamed B.named
  have hlocks := B.notSynchronized
  have hiX0 : ∀ w ∈ wsX00, w ∈ wsX5_queue := by decide +kernel
  have hiX5 : ∀ w ∈ wsX50, w ∈ wsX5_queue := by decide +kernel
  have hl := lv_entry ([.ref (ad 0), .int a1, .int a2]) (n := 3) (Nat.le_of_ble_eq_true rfl)
  rw [lg_entry_eq]
  generalize (lg_sl ([.ref (ad 0), .int a1, .int a2]) ++ List.replicate (3 - (lg_sl ([.ref (ad 0), .int a1, .int a2])).length) Slot.unset).toArray = ls at hl ⊢
  have hl : lv_has ls 3 [(0, .ref (ad 0)), (1, .int a1), (2, .int a2)] := hl
  unfold f_X5_queue at hf
  obtain ⟨H, eH⟩ : ∃ H, H = s.heap := ⟨_, rfl⟩
  obtain ⟨locs, eL⟩ : ∃ L : List Loc, L = [] := ⟨_, rfl⟩
  rw [← eH, ← eL] at hw ⊢
  clear eH eL
  have B28 : ∀ (x1 : Int32) (x2 : Int32) (y0 : Int32) (H : Heap) (locs : List Loc) (ls : Array Slot), f_X5_queue_b28 O K x1 x2 y0 = some res → WH D cI cR A (xws cI cR ad O K) s H locs → lv_has ls 3 [(0, .ref (ad 0)), (1, .int x1), (2, .int x2)] → W p l e (headSpec wsX5_queue ({ frames := 7, cells := 3, slots := 18, locals := 116 })).room s m ([.ref (ad 0), .int a1, .int a2] : List Value).toArray below meth c H locs 2 12 (vx_MQ below (QX res (fun u : (Int32 × XO × RK) => some (.int u.1)) (fun u : (Int32 × XO × RK) => (xws cI cR ad u.2.1 u.2.2)) D A) (XX res (xws cI cR ad O K) D A) (([.ref (ad 0), .int a1, .int a2] : List Value)).toArray s 3 18 A) (F0 m 28 ls [.int y0]) := by
    intro x1 x2 y0 H locs ls hf hw hl
    unfold f_X5_queue_b28 at hf
    refine x_run (vx_runS (As := [.int y0]) (rest := []) ⟨hx, hb, hml, hown, hts⟩ (c_X5_needState htr) (va_cwS 1 hts gX5_queue_X5_needState rfl rfl rfl (by decide +kernel) ⟨Nat.le_of_ble_eq_true rfl, Nat.le_of_ble_eq_true rfl⟩) (x_preS hw hO hA) rfl rfl hl.1 rfl (lv_room (Nat.le_of_ble_eq_true rfl)) dX5_queue_28 ⟨Nat.le_of_ble_eq_true rfl, Nat.le_of_ble_eq_true rfl⟩) hw (fun k hk H locs q9 ce hw hq1 hq2 hq3 => ?_) (fun u9 hu H locs hw => ?_)
    · exact x_out (bxL hk hf) hno hlocks hw hq1 hq2 hq3 (Nat.le_of_ble_eq_true rfl) (Nat.le_of_ble_eq_true rfl)
    have hf := bxR hu hf
    refine W.eq (g2 := F0 m 31 ls []) rfl ?_
    refine lv_aload_n hx hb dX5_queue_31 rfl (lv_at hl 0 rfl) ?_
    refine q_get hx hb hts hiX5 hown hw 0 xa_0 rfl 2 (by decide) (hts (.fieldLink RX5 22 "LaceRanks" "history" "LLaceRanks$History;") (by decide +kernel)) rfl dX5_queue_32 ?_
    refine lv_aload_n hx hb dX5_queue_35 rfl (lv_at hl 0 rfl) ?_
    refine q_get hx hb hts hiX5 hown hw 0 xa_0 rfl 0 (by decide) (hts (.fieldLink RX5 10 "LaceRanks" "now" "LLaceRanks$Carnival;") (by decide +kernel)) rfl dX5_queue_36 ?_
    obtain ⟨O2, hr2, hf⟩ := bndS hf
    refine q_callVN (rest := []) (st1 := []) [.ref (ad 1)] ⟨hx, hb, hml, hown, hts⟩ (c_X2_save hr2) ⟨va_cnB 1 hts gX5_queue_X2_save_n58 rfl rfl rfl (nw_X5_58 hw.2.2.2.2) (hts (.initialized RX2) (by decide +kernel)) (by decide +kernel) ⟨Nat.le_of_ble_eq_true rfl, Nat.le_of_ble_eq_true rfl⟩, (hts (.instanceMethod yX2_save) (by decide +kernel)), (hts (.selects RX2 yX2_save yX2_save) (by decide +kernel))⟩ hw xa_29 rfl rfl hl.1 rfl (Nat.le_of_ble_eq_true rfl) dX5_queue_39 ⟨Nat.le_of_ble_eq_true rfl, Nat.le_of_ble_eq_true rfl⟩ rfl (fun H locs hw => ?_)
    refine lv_aload_n hx hb dX5_queue_42 rfl (lv_at hl 0 rfl) ?_
    refine q_get hx hb hts hiX5 hown hw 0 xa_0 rfl 0 (by decide) (hts (.fieldLink RX5 10 "LaceRanks" "now" "LLaceRanks$Carnival;") (by decide +kernel)) rfl dX5_queue_43 ?_
    refine q_getN hx hb hts hiX0 hown hw 1 xa_1 rfl 1 (by decide) (nw_X5_127 hw.2.2.2.2) rfl dX5_queue_46 ?_
    refine lv_iload_n hx hb dX5_queue_49 rfl (lv_at hl 1 rfl) ?_
    refine lv_iload_n hx hb dX5_queue_50 rfl (lv_at hl 2 rfl) ?_
    obtain ⟨r3, K4, hr4, hf⟩ := bnd2S hf
    refine q_callVN (rest := []) (st1 := [.int r3]) [.int x1, .int x2] ⟨hx, hb, hml, hown, hts⟩ (c_X3_enter hr4) ⟨va_cnB 2 hts gX5_queue_X3_enter_n131 rfl rfl rfl (nw_X5_131 hw.2.2.2.2) (hts (.initialized RX3) (by decide +kernel)) (by decide +kernel) ⟨Nat.le_of_ble_eq_true rfl, Nat.le_of_ble_eq_true rfl⟩, (hts (.instanceMethod yX3_enter) (by decide +kernel)), (hts (.selects RX3 yX3_enter yX3_enter) (by decide +kernel))⟩ hw xa_11 rfl rfl hl.1 rfl (Nat.le_of_ble_eq_true rfl) dX5_queue_51 ⟨Nat.le_of_ble_eq_true rfl, Nat.le_of_ble_eq_true rfl⟩ rfl (fun H locs hw => ?_)
    cases hf
    refine x_ret (Nat.le_of_ble_eq_true rfl) (Nat.le_of_ble_eq_true rfl) ?_
    exact x_iret (u := (r3, O2, K4)) rfl rfl hx hb hr hlocks hw dX5_queue_54
  refine lv_aload_n hx hb dX5_queue_0 rfl (lv_at hl 0 rfl) ?_
  refine lv_iload_n hx hb dX5_queue_1 rfl (lv_at hl 1 rfl) ?_
  refine x_run (vx_runV (As := [.int a1]) (rest := []) ⟨hx, hb, hml, hown, hts⟩ (c_X5_needGuest htr) (cwV 1 hts gX5_queue_X5_needGuest rfl rfl rfl (by decide +kernel) ⟨Nat.le_of_ble_eq_true rfl, Nat.le_of_ble_eq_true rfl⟩) (x_preV hw hO hA xa_0 rfl) rfl rfl hl.1 rfl (lv_room (Nat.le_of_ble_eq_true rfl)) dX5_queue_2 ⟨Nat.le_of_ble_eq_true rfl, Nat.le_of_ble_eq_true rfl⟩) hw (fun k hk H locs q9 ce hw hq1 hq2 hq3 => ?_) (fun u9 hu H locs hw => ?_)
  · exact x_out (bxL hk hf) hno hlocks hw hq1 hq2 hq3 (Nat.le_of_ble_eq_true rfl) (Nat.le_of_ble_eq_true rfl)
  have hf := bxR hu hf
  refine W.eq (g2 := F0 m 5 ls []) rfl ?_
  refine lv_iload_n hx hb dX5_queue_5 rfl (lv_at hl 2 rfl) ?_
  obtain ⟨r2, hr2, hf⟩ := bndS hf
  refine q_callS (rest := []) (st1 := [.int r2]) [.int a2] ⟨hx, hb, hml, hown, hts⟩ (c_X5_isGate hr2) (va_cwS 1 hts gX5_queue_X5_isGate rfl rfl rfl (by decide +kernel) ⟨Nat.le_of_ble_eq_true rfl, Nat.le_of_ble_eq_true rfl⟩) hw rfl hl.1 rfl (Nat.le_of_ble_eq_true rfl) dX5_queue_6 ⟨Nat.le_of_ble_eq_true rfl, Nat.le_of_ble_eq_true rfl⟩ rfl (fun H locs hw => ?_)
  refine x_run (vx_runS (As := [.int r2]) (rest := []) ⟨hx, hb, hml, hown, hts⟩ (c_X5_needIndex htr) (va_cwS 1 hts gX5_queue_X5_needIndex rfl rfl rfl (by decide +kernel) ⟨Nat.le_of_ble_eq_true rfl, Nat.le_of_ble_eq_true rfl⟩) (x_preS hw hO hA) rfl rfl hl.1 rfl (lv_room (Nat.le_of_ble_eq_true rfl)) dX5_queue_9 ⟨Nat.le_of_ble_eq_true rfl, Nat.le_of_ble_eq_true rfl⟩) hw (fun k hk H locs q9 ce hw hq1 hq2 hq3 => ?_) (fun u9 hu H locs hw => ?_)
  · exact x_out (bxL hk hf) hno hlocks hw hq1 hq2 hq3 (Nat.le_of_ble_eq_true rfl) (Nat.le_of_ble_eq_true rfl)
  have hf := bxR hu hf
  refine W.eq (g2 := F0 m 12 ls []) rfl ?_
  refine lv_aload_n hx hb dX5_queue_12 rfl (lv_at hl 0 rfl) ?_
  refine q_get hx hb hts hiX5 hown hw 0 xa_0 rfl 0 (by decide) (hts (.fieldLink RX5 10 "LaceRanks" "now" "LLaceRanks$Carnival;") (by decide +kernel)) rfl dX5_queue_13 ?_
  refine lv_iload_n hx hb dX5_queue_16 rfl (lv_at hl 1 rfl) ?_
  obtain ⟨r4, hr4, hf⟩ := bndS hf
  refine q_callVN (rest := []) (st1 := [.int r4]) [.int a1] ⟨hx, hb, hml, hown, hts⟩ (c_X0_reasonNoLine hr4) ⟨va_cnB 1 hts gX5_queue_X0_reasonNoLine_n124 rfl rfl rfl (nw_X5_124 hw.2.2.2.2) (hts (.initialized RX0) (by decide +kernel)) (by decide +kernel) ⟨Nat.le_of_ble_eq_true rfl, Nat.le_of_ble_eq_true rfl⟩, (hts (.instanceMethod yX0_reasonNoLine) (by decide +kernel)), (hts (.selects RX0 yX0_reasonNoLine yX0_reasonNoLine) (by decide +kernel))⟩ hw xa_1 rfl rfl hl.1 rfl (Nat.le_of_ble_eq_true rfl) dX5_queue_17 ⟨Nat.le_of_ble_eq_true rfl, Nat.le_of_ble_eq_true rfl⟩ rfl (fun H locs hw => ?_)
  refine lv_if_ne (tgt := 27) hx hb dX5_queue_20 (by decide) (fun hc => ?_) (fun hc => ?_)
  · have hf := iteF hf hc
    refine lv_iconst (v := 0) hx hb dX5_queue_27 (by decide) ?_
    exact B28 a1 a2 0 H locs ls hf hw (lv_sub hl [0, 1, 2] rfl)
  · have hf := iteT hf hc
    refine lv_iconst (v := 1) hx hb dX5_queue_23 (by decide) ?_
    refine lv_goto (tgt := 28) hx hb dX5_queue_24 (by decide) ?_
    exact B28 a1 a2 1 H locs ls hf hw (lv_sub hl [0, 1, 2] rfl)

def f_X5_open_b29  (O : XO) (K : RK)  (x1 : Int32) (y0 : Int32) : Option (Nat ⊕ (Int32 × XO × RK)) := bx (f_need 3 y0) (fun _ => bnd (f_X2_save O K) (fun O2 => bnd2 (f_X0_openOnce K x1) (fun r3 K4 => some (.inr (r3, O2, K4)))))
def f_X5_open (O : XO) (K : RK)  (a1 : Int32) : Option (Nat ⊕ (Int32 × XO × RK)) := bnd (f_X5_isGate a1) (fun r1 => bx (f_need 1 r1) (fun _ => nm (at_ 3 (K 9) a1) (fun r3 => (if r3 ≤ 0 then f_X5_open_b29 O K a1 0 else f_X5_open_b29 O K a1 1))))
set_option maxHeartbeats 4000000 in
set_option maxRecDepth 100000 in
theorem c_X5_open {l : Launch} {D : va_G} {cI cR : ClassId} {ad : Nat → Nat} {A : Nat → Prop} {O : XO} {K : RK} {a1 : Int32} {res : Nat ⊕ (Int32 × XO × RK)} (htr : l.stackTraces = false) (hf : f_X5_open O K a1 = some res) : MX l yX5_open wsX5_open 7 115 2 12 D cI cR A [.ref (ad 0), .int a1] (xws cI cR ad O K) res (fun u : (Int32 × XO × RK) => some (.int u.1)) (fun u : (Int32 × XO × RK) => (xws cI cR ad u.2.1 u.2.2)) := by
  refine vx_ofW (cc := cX5_open) (maxL := 2) (ret := (some .int)) (by decide) rfl ?_
  intro p e s m args below meth c s₁ B hml hno hv
  obtain ⟨rfl, hw, hO, hA⟩ := x_start hv
  have hx := B.exec
  have hb := B.bytes
  have hr := B.returns
  have hts := atoms_spec (ws := wsX5_open) B.pre
  have hown : s.vm.findClass RX5 = some m.cls := findClass_of_methodNamed B.named
  have hlocks := B.notSynchronized
  have hiX0 : ∀ w ∈ wsX00, w ∈ wsX5_open := by decide +kernel
  have hiX3 : ∀ w ∈ wsX30, w ∈ wsX5_open := by decide +kernel
  have hiX5 : ∀ w ∈ wsX50, w ∈ wsX5_open := by decide +kernel
  have hl := lv_entry ([.ref (ad 0), .int a1]) (n := 2) (Nat.le_of_ble_eq_true rfl)
  rw [lg_entry_eq]
  generalize (lg_sl ([.ref (ad 0), .int a1]) ++ List.replicate (2 - (lg_sl ([.ref (ad 0), .int a1])).length) Slot.unset).toArray = ls at hl ⊢
  have hl : lv_has ls 2 [(0, .ref (ad 0)), (1, .int a1)] := hl
  unfold f_X5_open at hf
  obtain ⟨H, eH⟩ : ∃ H, H = s.heap := ⟨_, rfl⟩
  obtain ⟨locs, eL⟩ : ∃ L : List Loc, L = [] := ⟨_, rfl⟩
  rw [← eH, ← eL] at hw ⊢
  clear eH eL
  have B29 : ∀ (x1 : Int32) (y0 : Int32) (H : Heap) (locs : List Loc) (ls : Array Slot), f_X5_open_b29 O K x1 y0 = some res → WH D cI cR A (xws cI cR ad O K) s H locs → lv_has ls 2 [(0, .ref (ad 0)), (1, .int x1)] → W p l e (headSpec wsX5_open ({ frames := 7, cells := 2, slots := 12, locals := 115 })).room s m ([.ref (ad 0), .int a1] : List Value).toArray below meth c H locs 1 6 (vx_MQ below (QX res (fun u : (Int32 × XO × RK) => some (.int u.1)) (fun u : (Int32 × XO × RK) => (xws cI cR ad u.2.1 u.2.2)) D A) (XX res (xws cI cR ad O K) D A) (([.ref (ad 0), .int a1] : List Value)).toArray s 2 12 A) (F0 m 29 ls [.int y0]) := by
    intro x1 y0 H locs ls hf hw hl
    unfold f_X5_open_b29 at hf
    refine x_run (vx_runS (As := [.int y0]) (rest := []) ⟨hx, hb, hml, hown, hts⟩ (c_X5_needState htr) (va_cwS 1 hts gX5_open_X5_needState rfl rfl rfl (by decide +kernel) ⟨Nat.le_of_ble_eq_true rfl, Nat.le_of_ble_eq_true rfl⟩) (x_preS hw hO hA) rfl rfl hl.1 rfl (lv_room (Nat.le_of_ble_eq_true rfl)) dX5_open_29 ⟨Nat.le_of_ble_eq_true rfl, Nat.le_of_ble_eq_true rfl⟩) hw (fun k hk H locs q9 ce hw hq1 hq2 hq3 => ?_) (fun u9 hu H locs hw => ?_)
    · exact x_out (bxL hk hf) hno hlocks hw hq1 hq2 hq3 (Nat.le_of_ble_eq_true rfl) (Nat.le_of_ble_eq_true rfl)
    have hf := bxR hu hf
    refine W.eq (g2 := F0 m 32 ls []) rfl ?_
    refine lv_aload_n hx hb dX5_open_32 rfl (lv_at hl 0 rfl) ?_
    refine q_get hx hb hts hiX5 hown hw 0 xa_0 rfl 2 (by decide) (hts (.fieldLink RX5 22 "LaceRanks" "history" "LLaceRanks$History;") (by decide +kernel)) rfl dX5_open_33 ?_
    refine lv_aload_n hx hb dX5_open_36 rfl (lv_at hl 0 rfl) ?_
    refine q_get hx hb hts hiX5 hown hw 0 xa_0 rfl 0 (by decide) (hts (.fieldLink RX5 10 "LaceRanks" "now" "LLaceRanks$Carnival;") (by decide +kernel)) rfl dX5_open_37 ?_
    obtain ⟨O2, hr2, hf⟩ := bndS hf
    refine q_callVN (rest := []) (st1 := []) [.ref (ad 1)] ⟨hx, hb, hml, hown, hts⟩ (c_X2_save hr2) ⟨va_cnB 1 hts gX5_open_X2_save_n58 rfl rfl rfl (nw_X5_58 hw.2.2.2.2) (hts (.initialized RX2) (by decide +kernel)) (by decide +kernel) ⟨Nat.le_of_ble_eq_true rfl, Nat.le_of_ble_eq_true rfl⟩, (hts (.instanceMethod yX2_save) (by decide +kernel)), (hts (.selects RX2 yX2_save yX2_save) (by decide +kernel))⟩ hw xa_29 rfl rfl hl.1 rfl (Nat.le_of_ble_eq_true rfl) dX5_open_40 ⟨Nat.le_of_ble_eq_true rfl, Nat.le_of_ble_eq_true rfl⟩ rfl (fun H locs hw => ?_)
    refine lv_aload_n hx hb dX5_open_43 rfl (lv_at hl 0 rfl) ?_
    refine q_get hx hb hts hiX5 hown hw 0 xa_0 rfl 0 (by decide) (hts (.fieldLink RX5 10 "LaceRanks" "now" "LLaceRanks$Carnival;") (by decide +kernel)) rfl dX5_open_44 ?_
    refine lv_iload_n hx hb dX5_open_47 rfl (lv_at hl 1 rfl) ?_
    obtain ⟨r3, K4, hr4, hf⟩ := bnd2S hf
    refine q_callVN (rest := []) (st1 := [.int r3]) [.int x1] ⟨hx, hb, hml, hown, hts⟩ (c_X0_openOnce hr4) ⟨va_cnB 1 hts gX5_open_X0_openOnce_n139 rfl rfl rfl (nw_X5_139 hw.2.2.2.2) (hts (.initialized RX0) (by decide +kernel)) (by decide +kernel) ⟨Nat.le_of_ble_eq_true rfl, Nat.le_of_ble_eq_true rfl⟩, (hts (.instanceMethod yX0_openOnce) (by decide +kernel)), (hts (.selects RX0 yX0_openOnce yX0_openOnce) (by decide +kernel))⟩ hw xa_1 rfl rfl hl.1 rfl (Nat.le_of_ble_eq_true rfl) dX5_open_48 ⟨Nat.le_of_ble_eq_true rfl, Nat.le_of_ble_eq_true rfl⟩ rfl (fun H locs hw => ?_)
    cases hf
    refine x_ret (Nat.le_of_ble_eq_true rfl) (Nat.le_of_ble_eq_true rfl) ?_
    exact x_iret (u := (r3, O2, K4)) rfl rfl hx hb hr hlocks hw dX5_open_51
  refine lv_iload_n hx hb dX5_open_0 rfl (lv_at hl 1 rfl) ?_
  obtain ⟨r1, hr1, hf⟩ := bndS hf
  refine q_callS (rest := []) (st1 := [.int r1]) [.int a1] ⟨hx, hb, hml, hown, hts⟩ (c_X5_isGate hr1) (va_cwS 1 hts gX5_open_X5_isGate rfl rfl rfl (by decide +kernel) ⟨Nat.le_of_ble_eq_true rfl, Nat.le_of_ble_eq_true rfl⟩) hw rfl hl.1 rfl (Nat.le_of_ble_eq_true rfl) dX5_open_1 ⟨Nat.le_of_ble_eq_true rfl, Nat.le_of_ble_eq_true rfl⟩ rfl (fun H locs hw => ?_)
  refine x_run (vx_runS (As := [.int r1]) (rest := []) ⟨hx, hb, hml, hown, hts⟩ (c_X5_needIndex htr) (va_cwS 1 hts gX5_open_X5_needIndex rfl rfl rfl (by decide +kernel) ⟨Nat.le_of_ble_eq_true rfl, Nat.le_of_ble_eq_true rfl⟩) (x_preS hw hO hA) rfl rfl hl.1 rfl (lv_room (Nat.le_of_ble_eq_true rfl)) dX5_open_4 ⟨Nat.le_of_ble_eq_true rfl, Nat.le_of_ble_eq_true rfl⟩) hw (fun k hk H locs q9 ce hw hq1 hq2 hq3 => ?_) (fun u9 hu H locs hw => ?_)
  · exact x_out (bxL hk hf) hno hlocks hw hq1 hq2 hq3 (Nat.le_of_ble_eq_true rfl) (Nat.le_of_ble_eq_true rfl)
  have hf := bxR hu hf
  refine W.eq (g2 := F0 m 7 ls []) rfl ?_
  refine lv_aload_n hx hb dX5_open_7 rfl (lv_at hl 0 rfl) ?_
  refine q_get hx hb hts hiX5 hown hw 0 xa_0 rfl 0 (by decide) (hts (.fieldLink RX5 10 "LaceRanks" "now" "LLaceRanks$Carnival;") (by decide +kernel)) rfl dX5_open_8 ?_
  refine q_getN hx hb hts hiX0 hown hw 1 xa_1 rfl 1 (by decide) (nw_X5_127 hw.2.2.2.2) rfl dX5_open_11 ?_
  refine q_getN hx hb hts hiX3 hown hw 11 xa_11 rfl 1 (by decide) (nw_X5_136 hw.2.2.2.2) rfl dX5_open_14 ?_
  refine lv_iload_n hx hb dX5_open_17 rfl (lv_at hl 1 rfl) ?_
  obtain ⟨r3, hr3, hf⟩ := nmE hf
  refine q_callS (rest := []) (st1 := [.int r3]) [.ref (ad 13), .int a1] ⟨hx, hb, hml, hown, hts⟩ (c_X5_at (q0 := 13) xa_13 hr3) (va_cwS 2 hts gX5_open_X5_at rfl rfl rfl (by decide +kernel) ⟨Nat.le_of_ble_eq_true rfl, Nat.le_of_ble_eq_true rfl⟩) hw rfl hl.1 rfl (Nat.le_of_ble_eq_true rfl) dX5_open_18 ⟨Nat.le_of_ble_eq_true rfl, Nat.le_of_ble_eq_true rfl⟩ rfl (fun H locs hw => ?_)
  refine lv_if_le (tgt := 28) hx hb dX5_open_21 (by decide) (fun hc => ?_) (fun hc => ?_)
  · have hf := iteT hf hc
    refine lv_iconst (v := 0) hx hb dX5_open_28 (by decide) ?_
    exact B29 a1 0 H locs ls hf hw (lv_sub hl [0, 1] rfl)
  · have hf := iteF hf hc
    refine lv_iconst (v := 1) hx hb dX5_open_24 (by decide) ?_
    refine lv_goto (tgt := 29) hx hb dX5_open_25 (by decide) ?_
    exact B29 a1 1 H locs ls hf hw (lv_sub hl [0, 1] rfl)

def f_X5_append_b28  (O : XO)  (x1 : Int32) (y0 : Int32) : Option (Nat ⊕ (Int32 × XO)) := bx (f_need 3 y0) (fun _ => bnd (f_X4_write O x1) (fun O2 => some (.inr (O2 8 0 3, O2))))
def f_X5_append (O : XO)  (a1 : Int32) : Option (Nat ⊕ (Int32 × XO)) := bnd (f_X5_isWithin a1 33 126) (fun r1 => bx (f_need 2 r1) (fun _ => (if 60 ≤ (O 8 0 3) then f_X5_append_b28 O a1 0 else f_X5_append_b28 O a1 1)))
set_option maxHeartbeats 4000000 in
set_option maxRecDepth 100000 in
theorem c_X5_append {l : Launch} {D : va_G} {cI cR : ClassId} {ad : Nat → Nat} {A : Nat → Prop} {O : XO} {K : RK} {a1 : Int32} {res : Nat ⊕ (Int32 × XO)} (htr : l.stackTraces = false) (hf : f_X5_append O a1 = some res) : MX l yX5_append wsX5_append 7 115 2 12 D cI cR A [.ref (ad 0), .int a1] (xws cI cR ad O K) res (fun u : (Int32 × XO) => some (.int u.1)) (fun u : (Int32 × XO) => (xws cI cR ad u.2 K)) := by
  refine vx_ofW (cc := cX5_append) (maxL := 2) (ret := (some .int)) (by decide) rfl ?_
  intro p e s m args below meth c s₁ B hml hno hv
  obtain ⟨rfl, hw, hO, hA⟩ := x_start hv
  have hx := B.exec
  have hb := B.bytes
  have hr := B.returns
  have hts := atoms_spec (ws := wsX5_append) B.pre
  have hown : s.vm.findClass RX5 = some m.cls := findClass_of_methodNamed B.named
  have hlocks := B.notSynchronized
  have hiX4 : ∀ w ∈ wsX40, w ∈ wsX5_append := by decide +kernel
  have hiX5 : ∀ w ∈ wsX50, w ∈ wsX5_append := by decide +kernel
  have hl := lv_entry ([.ref (ad 0), .int a1]) (n := 2) (Nat.le_of_ble_eq_true rfl)
  rw [lg_entry_eq]
  generalize (lg_sl ([.ref (ad 0), .int a1]) ++ List.replicate (2 - (lg_sl ([.ref (ad 0), .int a1])).length) Slot.unset).toArray = ls at hl ⊢
  have hl : lv_has ls 2 [(0, .ref (ad 0)), (1, .int a1)] := hl
  unfold f_X5_append at hf
  obtain ⟨H, eH⟩ : ∃ H, H = s.heap := ⟨_, rfl⟩
  obtain ⟨locs, eL⟩ : ∃ L : List Loc, L = [] := ⟨_, rfl⟩
  rw [← eH, ← eL] at hw ⊢
  clear eH eL
  have B28 : ∀ (x1 : Int32) (y0 : Int32) (H : Heap) (locs : List Loc) (ls : Array Slot), f_X5_append_b28 O x1 y0 = some res → WH D cI cR A (xws cI cR ad O K) s H locs → lv_has ls 2 [(0, .ref (ad 0)), (1, .int x1)] → W p l e (headSpec wsX5_append ({ frames := 7, cells := 2, slots := 12, locals := 115 })).room s m ([.ref (ad 0), .int a1] : List Value).toArray below meth c H locs 1 6 (vx_MQ below (QX res (fun u : (Int32 × XO) => some (.int u.1)) (fun u : (Int32 × XO) => (xws cI cR ad u.2 K)) D A) (XX res (xws cI cR ad O K) D A) (([.ref (ad 0), .int a1] : List Value)).toArray s 2 12 A) (F0 m 28 ls [.int y0]) := by
    intro x1 y0 H locs ls hf hw hl
    unfold f_X5_append_b28 at hf
    refine x_run (vx_runS (As := [.int y0]) (rest := []) ⟨hx, hb, hml, hown, hts⟩ (c_X5_needState htr) (va_cwS 1 hts gX5_append_X5_needState rfl rfl rfl (by decide +kernel) ⟨Nat.le_of_ble_eq_true rfl, Nat.le_of_ble_eq_true rfl⟩) (x_preS hw hO hA) rfl rfl hl.1 rfl (lv_room (Nat.le_of_ble_eq_true rfl)) dX5_append_28 ⟨Nat.le_of_ble_eq_true rfl, Nat.le_of_ble_eq_true rfl⟩) hw (fun k hk H locs q9 ce hw hq1 hq2 hq3 => ?_) (fun u9 hu H locs hw => ?_)
    · exact x_out (bxL hk hf) hno hlocks hw hq1 hq2 hq3 (Nat.le_of_ble_eq_true rfl) (Nat.le_of_ble_eq_true rfl)
    have hf := bxR hu hf
    refine W.eq (g2 := F0 m 31 ls []) rfl ?_
    refine lv_aload_n hx hb dX5_append_31 rfl (lv_at hl 0 rfl) ?_
    refine q_get hx hb hts hiX5 hown hw 0 xa_0 rfl 3 (by decide) (hts (.fieldLink RX5 29 "LaceRanks" "text" "LLaceRanks$Text;") (by decide +kernel)) rfl dX5_append_32 ?_
    refine lv_iload_n hx hb dX5_append_35 rfl (lv_at hl 1 rfl) ?_
    obtain ⟨O2, hr2, hf⟩ := bndS hf
    refine q_callVN (rest := []) (st1 := []) [.int x1] ⟨hx, hb, hml, hown, hts⟩ (c_X4_write hr2) ⟨va_cnB 1 hts gX5_append_X4_write_n162 rfl rfl rfl (nw_X5_162 hw.2.2.2.2) (hts (.initialized RX4) (by decide +kernel)) (by decide +kernel) ⟨Nat.le_of_ble_eq_true rfl, Nat.le_of_ble_eq_true rfl⟩, (hts (.instanceMethod yX4_write) (by decide +kernel)), (hts (.selects RX4 yX4_write yX4_write) (by decide +kernel))⟩ hw xa_115 rfl rfl hl.1 rfl (Nat.le_of_ble_eq_true rfl) dX5_append_36 ⟨Nat.le_of_ble_eq_true rfl, Nat.le_of_ble_eq_true rfl⟩ rfl (fun H locs hw => ?_)
    refine lv_aload_n hx hb dX5_append_39 rfl (lv_at hl 0 rfl) ?_
    refine q_get hx hb hts hiX5 hown hw 0 xa_0 rfl 3 (by decide) (hts (.fieldLink RX5 29 "LaceRanks" "text" "LLaceRanks$Text;") (by decide +kernel)) rfl dX5_append_40 ?_
    refine q_getN hx hb hts hiX4 hown hw 115 xa_115 rfl 1 (by decide) (nw_X5_159 hw.2.2.2.2) rfl dX5_append_43 ?_
    cases hf
    refine x_ret (Nat.le_of_ble_eq_true rfl) (Nat.le_of_ble_eq_true rfl) ?_
    exact x_iret (u := (O2 8 0 3, O2)) rfl rfl hx hb hr hlocks hw dX5_append_46
  refine lv_iload_n hx hb dX5_append_0 rfl (lv_at hl 1 rfl) ?_
  refine lv_bipush (v := 33) hx hb dX5_append_1 (by decide) ?_
  refine lv_bipush (v := 126) hx hb dX5_append_3 (by decide) ?_
  obtain ⟨r1, hr1, hf⟩ := bndS hf
  refine q_callS (rest := []) (st1 := [.int r1]) [.int a1, .int 33, .int 126] ⟨hx, hb, hml, hown, hts⟩ (c_X5_isWithin hr1) (va_cwS 3 hts gX5_append_X5_isWithin rfl rfl rfl (by decide +kernel) ⟨Nat.le_of_ble_eq_true rfl, Nat.le_of_ble_eq_true rfl⟩) hw rfl hl.1 rfl (Nat.le_of_ble_eq_true rfl) dX5_append_5 ⟨Nat.le_of_ble_eq_true rfl, Nat.le_of_ble_eq_true rfl⟩ rfl (fun H locs hw => ?_)
  refine x_run (vx_runS (As := [.int r1]) (rest := []) ⟨hx, hb, hml, hown, hts⟩ (c_X5_needArgument htr) (va_cwS 1 hts gX5_append_X5_needArgument rfl rfl rfl (by decide +kernel) ⟨Nat.le_of_ble_eq_true rfl, Nat.le_of_ble_eq_true rfl⟩) (x_preS hw hO hA) rfl rfl hl.1 rfl (lv_room (Nat.le_of_ble_eq_true rfl)) dX5_append_8 ⟨Nat.le_of_ble_eq_true rfl, Nat.le_of_ble_eq_true rfl⟩) hw (fun k hk H locs q9 ce hw hq1 hq2 hq3 => ?_) (fun u9 hu H locs hw => ?_)
  · exact x_out (bxL hk hf) hno hlocks hw hq1 hq2 hq3 (Nat.le_of_ble_eq_true rfl) (Nat.le_of_ble_eq_true rfl)
  have hf := bxR hu hf
  refine W.eq (g2 := F0 m 11 ls []) rfl ?_
  refine lv_aload_n hx hb dX5_append_11 rfl (lv_at hl 0 rfl) ?_
  refine q_get hx hb hts hiX5 hown hw 0 xa_0 rfl 3 (by decide) (hts (.fieldLink RX5 29 "LaceRanks" "text" "LLaceRanks$Text;") (by decide +kernel)) rfl dX5_append_12 ?_
  refine q_getN hx hb hts hiX4 hown hw 115 xa_115 rfl 1 (by decide) (nw_X5_159 hw.2.2.2.2) rfl dX5_append_15 ?_
  refine lv_bipush (v := 60) hx hb dX5_append_18 (by decide) ?_
  refine lv_icmp_ge (tgt := 27) hx hb dX5_append_20 (by decide) (fun hc => ?_) (fun hc => ?_)
  · have hf := iteT hf hc
    refine lv_iconst (v := 0) hx hb dX5_append_27 (by decide) ?_
    exact B28 a1 0 H locs ls hf hw (lv_sub hl [0, 1] rfl)
  · have hf := iteF hf hc
    refine lv_iconst (v := 1) hx hb dX5_append_23 (by decide) ?_
    refine lv_goto (tgt := 28) hx hb dX5_append_24 (by decide) ?_
    exact B28 a1 1 H locs ls hf hw (lv_sub hl [0, 1] rfl)
