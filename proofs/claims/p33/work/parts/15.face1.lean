def f_X5_restore (O : XO) (K : RK)   : Option (Int32 × XO × RK) := gd (ndb (O 8 0 0)) (bnd (f_X2_save O K) (fun O1 => nm (O1 1) (fun K2 => some (K2 11 0, O1, K2))))
set_option maxHeartbeats 4000000 in
set_option maxRecDepth 100000 in
theorem c_X5_restore {l : Launch} {D : va_G} {cI cR : ClassId} {ad : Nat → Nat} {A : Nat → Prop} {O : XO} {K : RK} {O' : XO} {K' : RK}  {r : Int32}  (hf : f_X5_restore O K = some (r, O', K')) : MC l yX5_restore wsX5_restore 5 105 D cI cR A [.ref (ad 0)] (xws cI cR ad O K) (some (.int r)) (xws cI cR ad O' K') := by
  refine Met.ofW (cc := cX5_restore) (maxL := 1) (ret := (some .int)) (by decide) rfl ?_
  intro p e s m args below meth c s₁ B hml hv
  obtain ⟨rfl, hw⟩ := q_start hv
  have hx := B.exec
  have hb := B.bytes
  have hr := B.returns
  have hts := atoms_spec (ws := wsX5_restore) B.pre
  have hown : s.vm.findClass RX5 = some m.cls := findClass_of_methodNamed B.named
  have hlocks := B.notSynchronized
  have hiX0 : ∀ w ∈ wsX00, w ∈ wsX5_restore := by decide +kernel
  have hiX5 : ∀ w ∈ wsX50, w ∈ wsX5_restore := by decide +kernel
  have hl := lv_entry ([.ref (ad 0)]) (n := 1) (Nat.le_of_ble_eq_true rfl)
  rw [lg_entry_eq]
  generalize (lg_sl ([.ref (ad 0)]) ++ List.replicate (1 - (lg_sl ([.ref (ad 0)])).length) Slot.unset).toArray = ls at hl ⊢
  have hl : lv_has ls 1 [(0, .ref (ad 0))] := hl
  unfold f_X5_restore at hf
  obtain ⟨H, eH⟩ : ∃ H, H = s.heap := ⟨_, rfl⟩
  obtain ⟨locs, eL⟩ : ∃ L : List Loc, L = [] := ⟨_, rfl⟩
  rw [← eH, ← eL] at hw ⊢
  clear eH eL
  refine lv_aload_n hx hb dX5_restore_0 rfl (lv_at hl 0 rfl) ?_
  refine q_get hx hb hts hiX5 hown hw 0 xa_0 rfl 4 (by decide) (hts (.fieldLink RX5 33 "LaceRanks" "hasSnapshot" "Z") (by decide +kernel)) rfl dX5_restore_1 ?_
  obtain ⟨hg, hf⟩ := gdE hf
  refine q_callS (rest := []) (st1 := []) [.int (O 8 0 0)] ⟨hx, hb, hml, hown, hts⟩ (c_X5_needState hg) (va_cwS 1 hts gX5_restore_X5_needState rfl rfl rfl (by decide +kernel) ⟨Nat.le_of_ble_eq_true rfl, Nat.le_of_ble_eq_true rfl⟩) hw rfl hl.1 rfl (Nat.le_of_ble_eq_true rfl) dX5_restore_4 ⟨Nat.zero_le _, Nat.zero_le _⟩ rfl (fun H locs hw => ?_)
  refine lv_aload_n hx hb dX5_restore_7 rfl (lv_at hl 0 rfl) ?_
  refine q_get hx hb hts hiX5 hown hw 0 xa_0 rfl 2 (by decide) (hts (.fieldLink RX5 22 "LaceRanks" "history" "LLaceRanks$History;") (by decide +kernel)) rfl dX5_restore_8 ?_
  refine lv_aload_n hx hb dX5_restore_11 rfl (lv_at hl 0 rfl) ?_
  refine q_get hx hb hts hiX5 hown hw 0 xa_0 rfl 0 (by decide) (hts (.fieldLink RX5 10 "LaceRanks" "now" "LLaceRanks$Carnival;") (by decide +kernel)) rfl dX5_restore_12 ?_
  obtain ⟨O1, hr1, hf⟩ := bndS hf
  refine q_callVN (rest := []) (st1 := []) [.ref (ad 1)] ⟨hx, hb, hml, hown, hts⟩ (c_X2_save hr1) ⟨va_cnB 1 hts gX5_restore_X2_save_n58 rfl rfl rfl (nw_X5_58 hw.2.2.2.2) (hts (.initialized RX2) (by decide +kernel)) (by decide +kernel) ⟨Nat.le_of_ble_eq_true rfl, Nat.le_of_ble_eq_true rfl⟩, (hts (.instanceMethod yX2_save) (by decide +kernel)), (hts (.selects RX2 yX2_save yX2_save) (by decide +kernel))⟩ hw xa_29 rfl rfl hl.1 rfl (Nat.le_of_ble_eq_true rfl) dX5_restore_15 ⟨Nat.zero_le _, Nat.zero_le _⟩ rfl (fun H locs hw => ?_)
  refine lv_aload_n hx hb dX5_restore_18 rfl (lv_at hl 0 rfl) ?_
  refine q_get hx hb hts hiX5 hown hw 0 xa_0 rfl 0 (by decide) (hts (.fieldLink RX5 10 "LaceRanks" "now" "LLaceRanks$Carnival;") (by decide +kernel)) rfl dX5_restore_19 ?_
  refine lv_aload_n hx hb dX5_restore_22 rfl (lv_at hl 0 rfl) ?_
  refine q_get hx hb hts hiX5 hown hw 0 xa_0 rfl 1 (by decide) (hts (.fieldLink RX5 16 "LaceRanks" "snapshot" "LLaceRanks$Carnival;") (by decide +kernel)) rfl dX5_restore_23 ?_
  obtain ⟨K2, hK2, hf⟩ := nmE hf
  refine q_copyDS (w := xws cI cR ad O1 K) (w' := xws cI cR ad O1 K2) (od := 1) (os := 15) (rest := []) ⟨hx, hb, hml, hown, hts⟩ ⟨va_cnB 1 hts gX5_restore_X0_copyState_n188 rfl rfl rfl (nw_X5_188 hw.2.2.2.2) (hts (.initialized RX0) (by decide +kernel)) (by decide +kernel) ⟨Nat.le_of_ble_eq_true rfl, Nat.le_of_ble_eq_true rfl⟩, (hts (.instanceMethod yX0_copyState) (by decide +kernel)), (hts (.selects RX0 yX0_copyState yX0_copyState) (by decide +kernel))⟩ (by have h := xw_snap (cI := cI) (cR := cR) (ad := ad) (O := O1) (K := K) (B := O1 1); rw [upB_id] at h; exact h) (by have h := xw_snap (cI := cI) (cR := cR) (ad := ad) (O := O1) (K := K2) (B := O1 1); rw [upB_id] at h; rw [h, hK2]) hw hl.1 rfl (Nat.le_of_ble_eq_true rfl) dX5_restore_26 ⟨Nat.zero_le _, Nat.zero_le _⟩ (fun H locs hw => ?_)
  refine lv_aload_n hx hb dX5_restore_29 rfl (lv_at hl 0 rfl) ?_
  refine q_get hx hb hts hiX5 hown hw 0 xa_0 rfl 0 (by decide) (hts (.fieldLink RX5 10 "LaceRanks" "now" "LLaceRanks$Carnival;") (by decide +kernel)) rfl dX5_restore_30 ?_
  refine q_getN hx hb hts hiX0 hown hw 1 xa_1 rfl 3 (by decide) (nw_X5_191 hw.2.2.2.2) rfl dX5_restore_33 ?_
  cases hf
  exact q_iret hx hb hr hlocks hw dX5_restore_36

def f_X5_guest (K : RK)  (a1 : Int32) (a2 : Int32) : Option Int32 := gd (ndg K a1) (bnd (f_X5_isWithin a2 0 10) (fun r1 => gd (ndb r1) (bnd (f_X0_guestNumber K a1 a2) (fun r2 => some r2))))
set_option maxHeartbeats 4000000 in
set_option maxRecDepth 100000 in
theorem c_X5_guest {l : Launch} {D : va_G} {cI cR : ClassId} {ad : Nat → Nat} {A : Nat → Prop} {O : XO} {K : RK}  {a1 : Int32} {a2 : Int32} {r : Int32}  (hf : f_X5_guest K a1 a2 = some r) : MC l yX5_guest wsX5_guest 4 89 D cI cR A [.ref (ad 0), .int a1, .int a2] (xws cI cR ad O K) (some (.int r)) (xws cI cR ad O K) := by
  refine Met.ofW (cc := cX5_guest) (maxL := 3) (ret := (some .int)) (by decide) rfl ?_
  intro p e s m args below meth c s₁ B hml hv
  obtain ⟨rfl, hw⟩ := q_start hv
  have hx := B.exec
  have hb := B.bytes
  have hr := B.returns
  have hts := atoms_spec (ws := wsX5_guest) B.pre
  have hown : s.vm.findClass RX5 = some m.cls := findClass_of_methodNamed B.named
  have hlocks := B.notSynchronized
  have hiX5 : ∀ w ∈ wsX50, w ∈ wsX5_guest := by decide +kernel
  have hl := lv_entry ([.ref (ad 0), .int a1, .int a2]) (n := 3) (Nat.le_of_ble_eq_true rfl)
  rw [lg_entry_eq]
  generalize (lg_sl ([.ref (ad 0), .int a1, .int a2]) ++ List.replicate (3 - (lg_sl ([.ref (ad 0), .int a1, .int a2])).length) Slot.unset).toArray = ls at hl ⊢
  have hl : lv_has ls 3 [(0, .ref (ad 0)), (1, .int a1), (2, .int a2)] := hl
  unfold f_X5_guest at hf
  obtain ⟨H, eH⟩ : ∃ H, H = s.heap := ⟨_, rfl⟩
  obtain ⟨locs, eL⟩ : ∃ L : List Loc, L = [] := ⟨_, rfl⟩
  rw [← eH, ← eL] at hw ⊢
  clear eH eL
  refine lv_aload_n hx hb dX5_guest_0 rfl (lv_at hl 0 rfl) ?_
  refine lv_iload_n hx hb dX5_guest_1 rfl (lv_at hl 1 rfl) ?_
  obtain ⟨hg, hf⟩ := gdE hf
  refine q_callV (rest := []) (st1 := []) [.int a1] ⟨hx, hb, hml, hown, hts⟩ (c_X5_needGuest hg) (cwV 1 hts gX5_guest_X5_needGuest rfl rfl rfl (by decide +kernel) ⟨Nat.le_of_ble_eq_true rfl, Nat.le_of_ble_eq_true rfl⟩) hw xa_0 rfl rfl hl.1 rfl (Nat.le_of_ble_eq_true rfl) dX5_guest_2 ⟨Nat.zero_le _, Nat.zero_le _⟩ rfl (fun H locs hw => ?_)
  refine lv_iload_n hx hb dX5_guest_5 rfl (lv_at hl 2 rfl) ?_
  refine lv_iconst (v := 0) hx hb dX5_guest_6 (by decide) ?_
  refine lv_bipush (v := 10) hx hb dX5_guest_7 (by decide) ?_
  obtain ⟨r1, hr1, hf⟩ := bndS hf
  refine q_callS (rest := []) (st1 := [.int r1]) [.int a2, .int 0, .int 10] ⟨hx, hb, hml, hown, hts⟩ (c_X5_isWithin hr1) (va_cwS 3 hts gX5_guest_X5_isWithin rfl rfl rfl (by decide +kernel) ⟨Nat.le_of_ble_eq_true rfl, Nat.le_of_ble_eq_true rfl⟩) hw rfl hl.1 rfl (Nat.le_of_ble_eq_true rfl) dX5_guest_9 ⟨Nat.zero_le _, Nat.zero_le _⟩ rfl (fun H locs hw => ?_)
  obtain ⟨hg, hf⟩ := gdE hf
  refine q_callS (rest := []) (st1 := []) [.int r1] ⟨hx, hb, hml, hown, hts⟩ (c_X5_needArgument hg) (va_cwS 1 hts gX5_guest_X5_needArgument rfl rfl rfl (by decide +kernel) ⟨Nat.le_of_ble_eq_true rfl, Nat.le_of_ble_eq_true rfl⟩) hw rfl hl.1 rfl (Nat.le_of_ble_eq_true rfl) dX5_guest_12 ⟨Nat.zero_le _, Nat.zero_le _⟩ rfl (fun H locs hw => ?_)
  refine lv_aload_n hx hb dX5_guest_15 rfl (lv_at hl 0 rfl) ?_
  refine q_get hx hb hts hiX5 hown hw 0 xa_0 rfl 0 (by decide) (hts (.fieldLink RX5 10 "LaceRanks" "now" "LLaceRanks$Carnival;") (by decide +kernel)) rfl dX5_guest_16 ?_
  refine lv_iload_n hx hb dX5_guest_19 rfl (lv_at hl 1 rfl) ?_
  refine lv_iload_n hx hb dX5_guest_20 rfl (lv_at hl 2 rfl) ?_
  obtain ⟨r2, hr2, hf⟩ := bndS hf
  refine q_callVN (rest := []) (st1 := [.int r2]) [.int a1, .int a2] ⟨hx, hb, hml, hown, hts⟩ (c_X0_guestNumber hr2) ⟨va_cnB 2 hts gX5_guest_X0_guestNumber_n194 rfl rfl rfl (nw_X5_194 hw.2.2.2.2) (hts (.initialized RX0) (by decide +kernel)) (by decide +kernel) ⟨Nat.le_of_ble_eq_true rfl, Nat.le_of_ble_eq_true rfl⟩, (hts (.instanceMethod yX0_guestNumber) (by decide +kernel)), (hts (.selects RX0 yX0_guestNumber yX0_guestNumber) (by decide +kernel))⟩ hw xa_1 rfl rfl hl.1 rfl (Nat.le_of_ble_eq_true rfl) dX5_guest_21 ⟨Nat.zero_le _, Nat.zero_le _⟩ rfl (fun H locs hw => ?_)
  cases hf
  exact q_iret hx hb hr hlocks hw dX5_guest_24

def f_X5_law_b25  (K : RK)  (x1 : Int32) (x2 : Int32) (x3 : Int32) (y0 : Int32) : Option Int32 := gd (ndb y0) (bnd (f_X0_allowedElls K x1 x2 x3) (fun r1 => some r1))
def f_X5_law (K : RK)  (a1 : Int32) (a2 : Int32) (a3 : Int32) : Option Int32 := bnd (f_X5_isGate a1) (fun r1 => gd (ndb r1) (bnd (f_X5_isWithin a2 0 4) (fun r2 => gd (ndb r2) ((if a3 < 0 then f_X5_law_b25 K a1 a2 a3 0 else f_X5_law_b25 K a1 a2 a3 1)))))
set_option maxHeartbeats 4000000 in
set_option maxRecDepth 100000 in
theorem c_X5_law {l : Launch} {D : va_G} {cI cR : ClassId} {ad : Nat → Nat} {A : Nat → Prop} {O : XO} {K : RK}  {a1 : Int32} {a2 : Int32} {a3 : Int32} {r : Int32}  (hf : f_X5_law K a1 a2 a3 = some r) : MC l yX5_law wsX5_law 2 45 D cI cR A [.ref (ad 0), .int a1, .int a2, .int a3] (xws cI cR ad O K) (some (.int r)) (xws cI cR ad O K) := by
  refine Met.ofW (cc := cX5_law) (maxL := 4) (ret := (some .int)) (by decide) rfl ?_
  intro p e s m args below meth c s₁ B hml hv
  obtain ⟨rfl, hw⟩ := q_start hv
  have hx := B.exec
  have hb := B.bytes
  have hr := B.returns
  have hts := atoms_spec (ws := wsX5_law) B.pre
  have hown : s.vm.findClass RX5 = some m.cls := findClass_of_methodNamed B.named
  have hlocks := B.notSynchronized
  have hiX5 : ∀ w ∈ wsX50, w ∈ wsX5_law := by decide +kernel
  have hl := lv_entry ([.ref (ad 0), .int a1, .int a2, .int a3]) (n := 4) (Nat.le_of_ble_eq_true rfl)
  rw [lg_entry_eq]
  generalize (lg_sl ([.ref (ad 0), .int a1, .int a2, .int a3]) ++ List.replicate (4 - (lg_sl ([.ref (ad 0), .int a1, .int a2, .int a3])).length) Slot.unset).toArray = ls at hl ⊢
  have hl : lv_has ls 4 [(0, .ref (ad 0)), (1, .int a1), (2, .int a2), (3, .int a3)] := hl
  unfold f_X5_law at hf
  obtain ⟨H, eH⟩ : ∃ H, H = s.heap := ⟨_, rfl⟩
  obtain ⟨locs, eL⟩ : ∃ L : List Loc, L = [] := ⟨_, rfl⟩
  rw [← eH, ← eL] at hw ⊢
  clear eH eL
  have B25 : ∀ (x1 : Int32) (x2 : Int32) (x3 : Int32) (y0 : Int32) (H : Heap) (locs : List Loc) (ls : Array Slot), f_X5_law_b25 K x1 x2 x3 y0 = some r → WH D cI cR A (xws cI cR ad O K) s H locs → lv_has ls 4 [(0, .ref (ad 0)), (1, .int x1), (2, .int x2), (3, .int x3)] → W p l e (headSpec wsX5_law ({ frames := 2, cells := 0, slots := 0, locals := 45 })).room s m ([.ref (ad 0), .int a1, .int a2, .int a3] : List Value).toArray below meth c H locs 0 0 (MQ below (QV (some (.int r)) D A (xws cI cR ad O K)) (([.ref (ad 0), .int a1, .int a2, .int a3] : List Value)).toArray s 0 0 A) (F0 m 25 ls [.int y0]) := by
    intro x1 x2 x3 y0 H locs ls hf hw hl
    unfold f_X5_law_b25 at hf
    obtain ⟨hg, hf⟩ := gdE hf
    refine q_callS (rest := []) (st1 := []) [.int y0] ⟨hx, hb, hml, hown, hts⟩ (c_X5_needArgument hg) (va_cwS 1 hts gX5_law_X5_needArgument rfl rfl rfl (by decide +kernel) ⟨Nat.le_of_ble_eq_true rfl, Nat.le_of_ble_eq_true rfl⟩) hw rfl hl.1 rfl (Nat.le_of_ble_eq_true rfl) dX5_law_25 ⟨Nat.zero_le _, Nat.zero_le _⟩ rfl (fun H locs hw => ?_)
    refine lv_aload_n hx hb dX5_law_28 rfl (lv_at hl 0 rfl) ?_
    refine q_get hx hb hts hiX5 hown hw 0 xa_0 rfl 0 (by decide) (hts (.fieldLink RX5 10 "LaceRanks" "now" "LLaceRanks$Carnival;") (by decide +kernel)) rfl dX5_law_29 ?_
    refine lv_iload_n hx hb dX5_law_32 rfl (lv_at hl 1 rfl) ?_
    refine lv_iload_n hx hb dX5_law_33 rfl (lv_at hl 2 rfl) ?_
    refine lv_iload_n hx hb dX5_law_34 rfl (lv_at hl 3 rfl) ?_
    obtain ⟨r1, hr1, hf⟩ := bndS hf
    refine q_callVN (rest := []) (st1 := [.int r1]) [.int x1, .int x2, .int x3] ⟨hx, hb, hml, hown, hts⟩ (c_X0_allowedElls hr1) ⟨va_cnB 3 hts gX5_law_X0_allowedElls_n197 rfl rfl rfl (nw_X5_197 hw.2.2.2.2) (hts (.initialized RX0) (by decide +kernel)) (by decide +kernel) ⟨Nat.le_of_ble_eq_true rfl, Nat.le_of_ble_eq_true rfl⟩, (hts (.instanceMethod yX0_allowedElls) (by decide +kernel)), (hts (.selects RX0 yX0_allowedElls yX0_allowedElls) (by decide +kernel))⟩ hw xa_1 rfl rfl hl.1 rfl (Nat.le_of_ble_eq_true rfl) dX5_law_35 ⟨Nat.zero_le _, Nat.zero_le _⟩ rfl (fun H locs hw => ?_)
    cases hf
    exact q_iret hx hb hr hlocks hw dX5_law_38
  refine lv_iload_n hx hb dX5_law_0 rfl (lv_at hl 1 rfl) ?_
  obtain ⟨r1, hr1, hf⟩ := bndS hf
  refine q_callS (rest := []) (st1 := [.int r1]) [.int a1] ⟨hx, hb, hml, hown, hts⟩ (c_X5_isGate hr1) (va_cwS 1 hts gX5_law_X5_isGate rfl rfl rfl (by decide +kernel) ⟨Nat.le_of_ble_eq_true rfl, Nat.le_of_ble_eq_true rfl⟩) hw rfl hl.1 rfl (Nat.le_of_ble_eq_true rfl) dX5_law_1 ⟨Nat.zero_le _, Nat.zero_le _⟩ rfl (fun H locs hw => ?_)
  obtain ⟨hg, hf⟩ := gdE hf
  refine q_callS (rest := []) (st1 := []) [.int r1] ⟨hx, hb, hml, hown, hts⟩ (c_X5_needIndex hg) (va_cwS 1 hts gX5_law_X5_needIndex rfl rfl rfl (by decide +kernel) ⟨Nat.le_of_ble_eq_true rfl, Nat.le_of_ble_eq_true rfl⟩) hw rfl hl.1 rfl (Nat.le_of_ble_eq_true rfl) dX5_law_4 ⟨Nat.zero_le _, Nat.zero_le _⟩ rfl (fun H locs hw => ?_)
  refine lv_iload_n hx hb dX5_law_7 rfl (lv_at hl 2 rfl) ?_
  refine lv_iconst (v := 0) hx hb dX5_law_8 (by decide) ?_
  refine lv_iconst (v := 4) hx hb dX5_law_9 (by decide) ?_
  obtain ⟨r2, hr2, hf⟩ := bndS hf
  refine q_callS (rest := []) (st1 := [.int r2]) [.int a2, .int 0, .int 4] ⟨hx, hb, hml, hown, hts⟩ (c_X5_isWithin hr2) (va_cwS 3 hts gX5_law_X5_isWithin rfl rfl rfl (by decide +kernel) ⟨Nat.le_of_ble_eq_true rfl, Nat.le_of_ble_eq_true rfl⟩) hw rfl hl.1 rfl (Nat.le_of_ble_eq_true rfl) dX5_law_10 ⟨Nat.zero_le _, Nat.zero_le _⟩ rfl (fun H locs hw => ?_)
  obtain ⟨hg, hf⟩ := gdE hf
  refine q_callS (rest := []) (st1 := []) [.int r2] ⟨hx, hb, hml, hown, hts⟩ (c_X5_needArgument hg) (va_cwS 1 hts gX5_law_X5_needArgument rfl rfl rfl (by decide +kernel) ⟨Nat.le_of_ble_eq_true rfl, Nat.le_of_ble_eq_true rfl⟩) hw rfl hl.1 rfl (Nat.le_of_ble_eq_true rfl) dX5_law_13 ⟨Nat.zero_le _, Nat.zero_le _⟩ rfl (fun H locs hw => ?_)
  refine lv_iload_n hx hb dX5_law_16 rfl (lv_at hl 3 rfl) ?_
  refine lv_if_lt (tgt := 24) hx hb dX5_law_17 (by decide) (fun hc => ?_) (fun hc => ?_)
  · have hf := iteT hf hc
    refine lv_iconst (v := 0) hx hb dX5_law_24 (by decide) ?_
    exact B25 a1 a2 a3 0 H locs ls hf hw (lv_sub hl [0, 1, 2, 3] rfl)
  · have hf := iteF hf hc
    refine lv_iconst (v := 1) hx hb dX5_law_20 (by decide) ?_
    refine lv_goto (tgt := 25) hx hb dX5_law_21 (by decide) ?_
    exact B25 a1 a2 a3 1 H locs ls hf hw (lv_sub hl [0, 1, 2, 3] rfl)

def f_X5_count (O : XO) (K : RK)  (a1 : Int32) : Option Int32 := bnd (f_X5_isWithin a1 0 21) (fun r1 => gd (ndb r1) (bnd (f_X5_numberOf O K a1) (fun r2 => some r2)))
set_option maxHeartbeats 4000000 in
set_option maxRecDepth 100000 in
theorem c_X5_count {l : Launch} {D : va_G} {cI cR : ClassId} {ad : Nat → Nat} {A : Nat → Prop} {O : XO} {K : RK}  {a1 : Int32} {r : Int32}  (hf : f_X5_count O K a1 = some r) : MC l yX5_count wsX5_count 5 106 D cI cR A [.ref (ad 0), .int a1] (xws cI cR ad O K) (some (.int r)) (xws cI cR ad O K) := by
  refine Met.ofW (cc := cX5_count) (maxL := 2) (ret := (some .int)) (by decide) rfl ?_
  intro p e s m args below meth c s₁ B hml hv
  obtain ⟨rfl, hw⟩ := q_start hv
  have hx := B.exec
  have hb := B.bytes
  have hr := B.returns
  have hts := atoms_spec (ws := wsX5_count) B.pre
  have hown : s.vm.findClass RX5 = some m.cls := findClass_of_methodNamed B.named
  have hlocks := B.notSynchronized
  have hl := lv_entry ([.ref (ad 0), .int a1]) (n := 2) (Nat.le_of_ble_eq_true rfl)
  rw [lg_entry_eq]
  generalize (lg_sl ([.ref (ad 0), .int a1]) ++ List.replicate (2 - (lg_sl ([.ref (ad 0), .int a1])).length) Slot.unset).toArray = ls at hl ⊢
  have hl : lv_has ls 2 [(0, .ref (ad 0)), (1, .int a1)] := hl
  unfold f_X5_count at hf
  obtain ⟨H, eH⟩ : ∃ H, H = s.heap := ⟨_, rfl⟩
  obtain ⟨locs, eL⟩ : ∃ L : List Loc, L = [] := ⟨_, rfl⟩
  rw [← eH, ← eL] at hw ⊢
  clear eH eL
  refine lv_iload_n hx hb dX5_count_0 rfl (lv_at hl 1 rfl) ?_
  refine lv_iconst (v := 0) hx hb dX5_count_1 (by decide) ?_
  refine lv_bipush (v := 21) hx hb dX5_count_2 (by decide) ?_
  obtain ⟨r1, hr1, hf⟩ := bndS hf
  refine q_callS (rest := []) (st1 := [.int r1]) [.int a1, .int 0, .int 21] ⟨hx, hb, hml, hown, hts⟩ (c_X5_isWithin hr1) (va_cwS 3 hts gX5_count_X5_isWithin rfl rfl rfl (by decide +kernel) ⟨Nat.le_of_ble_eq_true rfl, Nat.le_of_ble_eq_true rfl⟩) hw rfl hl.1 rfl (Nat.le_of_ble_eq_true rfl) dX5_count_4 ⟨Nat.zero_le _, Nat.zero_le _⟩ rfl (fun H locs hw => ?_)
  obtain ⟨hg, hf⟩ := gdE hf
  refine q_callS (rest := []) (st1 := []) [.int r1] ⟨hx, hb, hml, hown, hts⟩ (c_X5_needArgument hg) (va_cwS 1 hts gX5_count_X5_needArgument rfl rfl rfl (by decide +kernel) ⟨Nat.le_of_ble_eq_true rfl, Nat.le_of_ble_eq_true rfl⟩) hw rfl hl.1 rfl (Nat.le_of_ble_eq_true rfl) dX5_count_7 ⟨Nat.zero_le _, Nat.zero_le _⟩ rfl (fun H locs hw => ?_)
  refine lv_aload_n hx hb dX5_count_10 rfl (lv_at hl 0 rfl) ?_
  refine lv_iload_n hx hb dX5_count_11 rfl (lv_at hl 1 rfl) ?_
  obtain ⟨r2, hr2, hf⟩ := bndS hf
  refine q_callV (rest := []) (st1 := [.int r2]) [.int a1] ⟨hx, hb, hml, hown, hts⟩ (c_X5_numberOf hr2) (cwV 1 hts gX5_count_X5_numberOf rfl rfl rfl (by decide +kernel) ⟨Nat.le_of_ble_eq_true rfl, Nat.le_of_ble_eq_true rfl⟩) hw xa_0 rfl rfl hl.1 rfl (Nat.le_of_ble_eq_true rfl) dX5_count_12 ⟨Nat.zero_le _, Nat.zero_le _⟩ rfl (fun H locs hw => ?_)
  cases hf
  exact q_iret hx hb hr hlocks hw dX5_count_15

def f_X5_line (K : RK)  (a1 : Int32) : Option Int32 := bnd (f_X5_isGate a1) (fun r1 => gd (ndb r1) (nm (at_ 3 (K 9) a1) (fun r2 => some r2)))
set_option maxHeartbeats 4000000 in
set_option maxRecDepth 100000 in
theorem c_X5_line {l : Launch} {D : va_G} {cI cR : ClassId} {ad : Nat → Nat} {A : Nat → Prop} {O : XO} {K : RK}  {a1 : Int32} {r : Int32}  (hf : f_X5_line K a1 = some r) : MC l yX5_line wsX5_line 2 42 D cI cR A [.ref (ad 0), .int a1] (xws cI cR ad O K) (some (.int r)) (xws cI cR ad O K) := by
  refine Met.ofW (cc := cX5_line) (maxL := 2) (ret := (some .int)) (by decide) rfl ?_
  intro p e s m args below meth c s₁ B hml hv
  obtain ⟨rfl, hw⟩ := q_start hv
  have hx := B.exec
  have hb := B.bytes
  have hr := B.returns
  have hts := atoms_spec (ws := wsX5_line) B.pre
  have hown : s.vm.findClass RX5 = some m.cls := findClass_of_methodNamed B.named
  have hlocks := B.notSynchronized
  have hiX0 : ∀ w ∈ wsX00, w ∈ wsX5_line := by decide +kernel
  have hiX3 : ∀ w ∈ wsX30, w ∈ wsX5_line := by decide +kernel
  have hiX5 : ∀ w ∈ wsX50, w ∈ wsX5_line := by decide +kernel
  have hl := lv_entry ([.ref (ad 0), .int a1]) (n := 2) (Nat.le_of_ble_eq_true rfl)
  rw [lg_entry_eq]
  generalize (lg_sl ([.ref (ad 0), .int a1]) ++ List.replicate (2 - (lg_sl ([.ref (ad 0), .int a1])).length) Slot.unset).toArray = ls at hl ⊢
  have hl : lv_has ls 2 [(0, .ref (ad 0)), (1, .int a1)] := hl
  unfold f_X5_line at hf
  obtain ⟨H, eH⟩ : ∃ H, H = s.heap := ⟨_, rfl⟩
  obtain ⟨locs, eL⟩ : ∃ L : List Loc, L = [] := ⟨_, rfl⟩
  rw [← eH, ← eL] at hw ⊢
  clear eH eL
  refine lv_iload_n hx hb dX5_line_0 rfl (lv_at hl 1 rfl) ?_
  obtain ⟨r1, hr1, hf⟩ := bndS hf
  refine q_callS (rest := []) (st1 := [.int r1]) [.int a1] ⟨hx, hb, hml, hown, hts⟩ (c_X5_isGate hr1) (va_cwS 1 hts gX5_line_X5_isGate rfl rfl rfl (by decide +kernel) ⟨Nat.le_of_ble_eq_true rfl, Nat.le_of_ble_eq_true rfl⟩) hw rfl hl.1 rfl (Nat.le_of_ble_eq_true rfl) dX5_line_1 ⟨Nat.zero_le _, Nat.zero_le _⟩ rfl (fun H locs hw => ?_)
  obtain ⟨hg, hf⟩ := gdE hf
  refine q_callS (rest := []) (st1 := []) [.int r1] ⟨hx, hb, hml, hown, hts⟩ (c_X5_needIndex hg) (va_cwS 1 hts gX5_line_X5_needIndex rfl rfl rfl (by decide +kernel) ⟨Nat.le_of_ble_eq_true rfl, Nat.le_of_ble_eq_true rfl⟩) hw rfl hl.1 rfl (Nat.le_of_ble_eq_true rfl) dX5_line_4 ⟨Nat.zero_le _, Nat.zero_le _⟩ rfl (fun H locs hw => ?_)
  refine lv_aload_n hx hb dX5_line_7 rfl (lv_at hl 0 rfl) ?_
  refine q_get hx hb hts hiX5 hown hw 0 xa_0 rfl 0 (by decide) (hts (.fieldLink RX5 10 "LaceRanks" "now" "LLaceRanks$Carnival;") (by decide +kernel)) rfl dX5_line_8 ?_
  refine q_getN hx hb hts hiX0 hown hw 1 xa_1 rfl 1 (by decide) (nw_X5_127 hw.2.2.2.2) rfl dX5_line_11 ?_
  refine q_getN hx hb hts hiX3 hown hw 11 xa_11 rfl 1 (by decide) (nw_X5_136 hw.2.2.2.2) rfl dX5_line_14 ?_
  refine lv_iload_n hx hb dX5_line_17 rfl (lv_at hl 1 rfl) ?_
  obtain ⟨r2, hr2, hf⟩ := nmE hf
  refine q_callS (rest := []) (st1 := [.int r2]) [.ref (ad 13), .int a1] ⟨hx, hb, hml, hown, hts⟩ (c_X5_at (q0 := 13) xa_13 hr2) (va_cwS 2 hts gX5_line_X5_at rfl rfl rfl (by decide +kernel) ⟨Nat.le_of_ble_eq_true rfl, Nat.le_of_ble_eq_true rfl⟩) hw rfl hl.1 rfl (Nat.le_of_ble_eq_true rfl) dX5_line_18 ⟨Nat.zero_le _, Nat.zero_le _⟩ rfl (fun H locs hw => ?_)
  cases hf
  exact q_iret hx hb hr hlocks hw dX5_line_21

def f_X5_noLoan (K : RK)  (a1 : Int32) (a2 : Int32) : Option Int32 := gd (ndg K a1) (gd (ndg K a2) (bnd (f_X1_reasonNoLoan K a1 a2) (fun r1 => some r1)))
set_option maxHeartbeats 4000000 in
set_option maxRecDepth 100000 in
theorem c_X5_noLoan {l : Launch} {D : va_G} {cI cR : ClassId} {ad : Nat → Nat} {A : Nat → Prop} {O : XO} {K : RK}  {a1 : Int32} {a2 : Int32} {r : Int32}  (hf : f_X5_noLoan K a1 a2 = some r) : MC l yX5_noLoan wsX5_noLoan 3 65 D cI cR A [.ref (ad 0), .int a1, .int a2] (xws cI cR ad O K) (some (.int r)) (xws cI cR ad O K) := by
  refine Met.ofW (cc := cX5_noLoan) (maxL := 3) (ret := (some .int)) (by decide) rfl ?_
  intro p e s m args below meth c s₁ B hml hv
  obtain ⟨rfl, hw⟩ := q_start hv
  have hx := B.exec
  have hb := B.bytes
  have hr := B.returns
  have hts := atoms_spec (ws := wsX5_noLoan) B.pre
  have hown : s.vm.findClass RX5 = some m.cls := findClass_of_methodNamed B.named
  have hlocks := B.notSynchronized
  have hiX0 : ∀ w ∈ wsX00, w ∈ wsX5_noLoan := by decide +kernel
  have hiX5 : ∀ w ∈ wsX50, w ∈ wsX5_noLoan := by decide +kernel
  have hl := lv_entry ([.ref (ad 0), .int a1, .int a2]) (n := 3) (Nat.le_of_ble_eq_true rfl)
  rw [lg_entry_eq]
  generalize (lg_sl ([.ref (ad 0), .int a1, .int a2]) ++ List.replicate (3 - (lg_sl ([.ref (ad 0), .int a1, .int a2])).length) Slot.unset).toArray = ls at hl ⊢
  have hl : lv_has ls 3 [(0, .ref (ad 0)), (1, .int a1), (2, .int a2)] := hl
  unfold f_X5_noLoan at hf
  obtain ⟨H, eH⟩ : ∃ H, H = s.heap := ⟨_, rfl⟩
  obtain ⟨locs, eL⟩ : ∃ L : List Loc, L = [] := ⟨_, rfl⟩
  rw [← eH, ← eL] at hw ⊢
  clear eH eL
  refine lv_aload_n hx hb dX5_noLoan_0 rfl (lv_at hl 0 rfl) ?_
  refine lv_iload_n hx hb dX5_noLoan_1 rfl (lv_at hl 1 rfl) ?_
  obtain ⟨hg, hf⟩ := gdE hf
  refine q_callV (rest := []) (st1 := []) [.int a1] ⟨hx, hb, hml, hown, hts⟩ (c_X5_needGuest hg) (cwV 1 hts gX5_noLoan_X5_needGuest rfl rfl rfl (by decide +kernel) ⟨Nat.le_of_ble_eq_true rfl, Nat.le_of_ble_eq_true rfl⟩) hw xa_0 rfl rfl hl.1 rfl (Nat.le_of_ble_eq_true rfl) dX5_noLoan_2 ⟨Nat.zero_le _, Nat.zero_le _⟩ rfl (fun H locs hw => ?_)
  refine lv_aload_n hx hb dX5_noLoan_5 rfl (lv_at hl 0 rfl) ?_
  refine lv_iload_n hx hb dX5_noLoan_6 rfl (lv_at hl 2 rfl) ?_
  obtain ⟨hg, hf⟩ := gdE hf
  refine q_callV (rest := []) (st1 := []) [.int a2] ⟨hx, hb, hml, hown, hts⟩ (c_X5_needGuest hg) (cwV 1 hts gX5_noLoan_X5_needGuest rfl rfl rfl (by decide +kernel) ⟨Nat.le_of_ble_eq_true rfl, Nat.le_of_ble_eq_true rfl⟩) hw xa_0 rfl rfl hl.1 rfl (Nat.le_of_ble_eq_true rfl) dX5_noLoan_7 ⟨Nat.zero_le _, Nat.zero_le _⟩ rfl (fun H locs hw => ?_)
  refine lv_aload_n hx hb dX5_noLoan_10 rfl (lv_at hl 0 rfl) ?_
  refine q_get hx hb hts hiX5 hown hw 0 xa_0 rfl 0 (by decide) (hts (.fieldLink RX5 10 "LaceRanks" "now" "LLaceRanks$Carnival;") (by decide +kernel)) rfl dX5_noLoan_11 ?_
  refine q_getN hx hb hts hiX0 hown hw 1 xa_1 rfl 0 (by decide) (nw_X5_45 hw.2.2.2.2) rfl dX5_noLoan_14 ?_
  refine lv_iload_n hx hb dX5_noLoan_17 rfl (lv_at hl 1 rfl) ?_
  refine lv_iload_n hx hb dX5_noLoan_18 rfl (lv_at hl 2 rfl) ?_
  obtain ⟨r1, hr1, hf⟩ := bndS hf
  refine q_callVN (rest := []) (st1 := [.int r1]) [.int a1, .int a2] ⟨hx, hb, hml, hown, hts⟩ (c_X1_reasonNoLoan hr1) ⟨va_cnB 2 hts gX5_noLoan_X1_reasonNoLoan_n82 rfl rfl rfl (nw_X5_82 hw.2.2.2.2) (hts (.initialized RX1) (by decide +kernel)) (by decide +kernel) ⟨Nat.le_of_ble_eq_true rfl, Nat.le_of_ble_eq_true rfl⟩, (hts (.instanceMethod yX1_reasonNoLoan) (by decide +kernel)), (hts (.selects RX1 yX1_reasonNoLoan yX1_reasonNoLoan) (by decide +kernel))⟩ hw xa_2 rfl rfl hl.1 rfl (Nat.le_of_ble_eq_true rfl) dX5_noLoan_19 ⟨Nat.zero_le _, Nat.zero_le _⟩ rfl (fun H locs hw => ?_)
  cases hf
  exact q_iret hx hb hr hlocks hw dX5_noLoan_22

def f_X5_whyNot (K : RK)  (a1 : Int32) (a2 : Int32) : Option Int32 := gd (ndg K a1) ((if a2 = 0 then bnd (f_X0_reasonNoLine K a1) (fun r1 => some r1) else bnd (f_X0_reasonNoMask K a1) (fun r2 => some r2)))
set_option maxHeartbeats 4000000 in
set_option maxRecDepth 100000 in
theorem c_X5_whyNot {l : Launch} {D : va_G} {cI cR : ClassId} {ad : Nat → Nat} {A : Nat → Prop} {O : XO} {K : RK}  {a1 : Int32} {a2 : Int32} {r : Int32}  (hf : f_X5_whyNot K a1 a2 = some r) : MC l yX5_whyNot wsX5_whyNot 4 88 D cI cR A [.ref (ad 0), .int a1, .int a2] (xws cI cR ad O K) (some (.int r)) (xws cI cR ad O K) := by
  refine Met.ofW (cc := cX5_whyNot) (maxL := 3) (ret := (some .int)) (by decide) rfl ?_
  intro p e s m args below meth c s₁ B hml hv
  obtain ⟨rfl, hw⟩ := q_start hv
  have hx := B.exec
  have hb := B.bytes
  have hr := B.returns
  have hts := atoms_spec (ws := wsX5_whyNot) B.pre
  have hown : s.vm.findClass RX5 = some m.cls := findClass_of_methodNamed B.named
  have hlocks := B.notSynchronized
  have hiX5 : ∀ w ∈ wsX50, w ∈ wsX5_whyNot := by decide +kernel
  have hl := lv_entry ([.ref (ad 0), .int a1, .int a2]) (n := 3) (Nat.le_of_ble_eq_true rfl)
  rw [lg_entry_eq]
  generalize (lg_sl ([.ref (ad 0), .int a1, .int a2]) ++ List.replicate (3 - (lg_sl ([.ref (ad 0), .int a1, .int a2])).length) Slot.unset).toArray = ls at hl ⊢
  have hl : lv_has ls 3 [(0, .ref (ad 0)), (1, .int a1), (2, .int a2)] := hl
  unfold f_X5_whyNot at hf
  obtain ⟨H, eH⟩ : ∃ H, H = s.heap := ⟨_, rfl⟩
  obtain ⟨locs, eL⟩ : ∃ L : List Loc, L = [] := ⟨_, rfl⟩
  rw [← eH, ← eL] at hw ⊢
  clear eH eL
  refine lv_aload_n hx hb dX5_whyNot_0 rfl (lv_at hl 0 rfl) ?_
  refine lv_iload_n hx hb dX5_whyNot_1 rfl (lv_at hl 1 rfl) ?_
  obtain ⟨hg, hf⟩ := gdE hf
  refine q_callV (rest := []) (st1 := []) [.int a1] ⟨hx, hb, hml, hown, hts⟩ (c_X5_needGuest hg) (cwV 1 hts gX5_whyNot_X5_needGuest rfl rfl rfl (by decide +kernel) ⟨Nat.le_of_ble_eq_true rfl, Nat.le_of_ble_eq_true rfl⟩) hw xa_0 rfl rfl hl.1 rfl (Nat.le_of_ble_eq_true rfl) dX5_whyNot_2 ⟨Nat.zero_le _, Nat.zero_le _⟩ rfl (fun H locs hw => ?_)
  refine lv_iload_n hx hb dX5_whyNot_5 rfl (lv_at hl 2 rfl) ?_
  refine lv_if_eq (tgt := 20) hx hb dX5_whyNot_6 (by decide) (fun hc => ?_) (fun hc => ?_)
  · have hf := iteT hf hc
    refine lv_aload_n hx hb dX5_whyNot_20 rfl (lv_at hl 0 rfl) ?_
    refine q_get hx hb hts hiX5 hown hw 0 xa_0 rfl 0 (by decide) (hts (.fieldLink RX5 10 "LaceRanks" "now" "LLaceRanks$Carnival;") (by decide +kernel)) rfl dX5_whyNot_21 ?_
    refine lv_iload_n hx hb dX5_whyNot_24 rfl (lv_at hl 1 rfl) ?_
    obtain ⟨r1, hr1, hf⟩ := bndS hf
    refine q_callVN (rest := []) (st1 := [.int r1]) [.int a1] ⟨hx, hb, hml, hown, hts⟩ (c_X0_reasonNoLine hr1) ⟨va_cnB 1 hts gX5_whyNot_X0_reasonNoLine_n124 rfl rfl rfl (nw_X5_124 hw.2.2.2.2) (hts (.initialized RX0) (by decide +kernel)) (by decide +kernel) ⟨Nat.le_of_ble_eq_true rfl, Nat.le_of_ble_eq_true rfl⟩, (hts (.instanceMethod yX0_reasonNoLine) (by decide +kernel)), (hts (.selects RX0 yX0_reasonNoLine yX0_reasonNoLine) (by decide +kernel))⟩ hw xa_1 rfl rfl hl.1 rfl (Nat.le_of_ble_eq_true rfl) dX5_whyNot_25 ⟨Nat.zero_le _, Nat.zero_le _⟩ rfl (fun H locs hw => ?_)
    cases hf
    exact q_iret hx hb hr hlocks hw dX5_whyNot_28
  · have hf := iteF hf hc
    refine lv_aload_n hx hb dX5_whyNot_9 rfl (lv_at hl 0 rfl) ?_
    refine q_get hx hb hts hiX5 hown hw 0 xa_0 rfl 0 (by decide) (hts (.fieldLink RX5 10 "LaceRanks" "now" "LLaceRanks$Carnival;") (by decide +kernel)) rfl dX5_whyNot_10 ?_
    refine lv_iload_n hx hb dX5_whyNot_13 rfl (lv_at hl 1 rfl) ?_
    obtain ⟨r2, hr2, hf⟩ := bndS hf
    refine q_callVN (rest := []) (st1 := [.int r2]) [.int a1] ⟨hx, hb, hml, hown, hts⟩ (c_X0_reasonNoMask hr2) ⟨va_cnB 1 hts gX5_whyNot_X0_reasonNoMask_n103 rfl rfl rfl (nw_X5_103 hw.2.2.2.2) (hts (.initialized RX0) (by decide +kernel)) (by decide +kernel) ⟨Nat.le_of_ble_eq_true rfl, Nat.le_of_ble_eq_true rfl⟩, (hts (.instanceMethod yX0_reasonNoMask) (by decide +kernel)), (hts (.selects RX0 yX0_reasonNoMask yX0_reasonNoMask) (by decide +kernel))⟩ hw xa_1 rfl rfl hl.1 rfl (Nat.le_of_ble_eq_true rfl) dX5_whyNot_14 ⟨Nat.zero_le _, Nat.zero_le _⟩ rfl (fun H locs hw => ?_)
    refine lv_goto (tgt := 28) hx hb dX5_whyNot_17 (by decide) ?_
    cases hf
    exact q_iret hx hb hr hlocks hw dX5_whyNot_28

def f_X5_ifOpened (K : RK)  (a1 : Int32) (a2 : Int32) (a3 : Int32) : Option Int32 := gd (ndg K a1) (bnd (f_X5_isGate a2) (fun r1 => gd (ndb r1) (bnd (f_X5_isWithin a3 0 3) (fun r2 => gd (ndb r2) (bnd (f_X0_gateNumber K a1 a2 a3) (fun r3 => some r3))))))
set_option maxHeartbeats 4000000 in
set_option maxRecDepth 100000 in
theorem c_X5_ifOpened {l : Launch} {D : va_G} {cI cR : ClassId} {ad : Nat → Nat} {A : Nat → Prop} {O : XO} {K : RK}  {a1 : Int32} {a2 : Int32} {a3 : Int32} {r : Int32}  (hf : f_X5_ifOpened K a1 a2 a3 = some r) : MC l yX5_ifOpened wsX5_ifOpened 5 113 D cI cR A [.ref (ad 0), .int a1, .int a2, .int a3] (xws cI cR ad O K) (some (.int r)) (xws cI cR ad O K) := by
  refine Met.ofW (cc := cX5_ifOpened) (maxL := 4) (ret := (some .int)) (by decide) rfl ?_
  intro p e s m args below meth c s₁ B hml hv
  obtain ⟨rfl, hw⟩ := q_start hv
  have hx := B.exec
  have hb := B.bytes
  have hr := B.returns
  have hts := atoms_spec (ws := wsX5_ifOpened) B.pre
  have hown : s.vm.findClass RX5 = some m.cls := findClass_of_methodNamed B.named
  have hlocks := B.notSynchronized
  have hiX5 : ∀ w ∈ wsX50, w ∈ wsX5_ifOpened := by decide +kernel
  have hl := lv_entry ([.ref (ad 0), .int a1, .int a2, .int a3]) (n := 4) (Nat.le_of_ble_eq_true rfl)
  rw [lg_entry_eq]
  generalize (lg_sl ([.ref (ad 0), .int a1, .int a2, .int a3]) ++ List.replicate (4 - (lg_sl ([.ref (ad 0), .int a1, .int a2, .int a3])).length) Slot.unset).toArray = ls at hl ⊢
  have hl : lv_has ls 4 [(0, .ref (ad 0)), (1, .int a1), (2, .int a2), (3, .int a3)] := hl
  unfold f_X5_ifOpened at hf
  obtain ⟨H, eH⟩ : ∃ H, H = s.heap := ⟨_, rfl⟩
  obtain ⟨locs, eL⟩ : ∃ L : List Loc, L = [] := ⟨_, rfl⟩
  rw [← eH, ← eL] at hw ⊢
  clear eH eL
  refine lv_aload_n hx hb dX5_ifOpened_0 rfl (lv_at hl 0 rfl) ?_
  refine lv_iload_n hx hb dX5_ifOpened_1 rfl (lv_at hl 1 rfl) ?_
  obtain ⟨hg, hf⟩ := gdE hf
  refine q_callV (rest := []) (st1 := []) [.int a1] ⟨hx, hb, hml, hown, hts⟩ (c_X5_needGuest hg) (cwV 1 hts gX5_ifOpened_X5_needGuest rfl rfl rfl (by decide +kernel) ⟨Nat.le_of_ble_eq_true rfl, Nat.le_of_ble_eq_true rfl⟩) hw xa_0 rfl rfl hl.1 rfl (Nat.le_of_ble_eq_true rfl) dX5_ifOpened_2 ⟨Nat.zero_le _, Nat.zero_le _⟩ rfl (fun H locs hw => ?_)
  refine lv_iload_n hx hb dX5_ifOpened_5 rfl (lv_at hl 2 rfl) ?_
  obtain ⟨r1, hr1, hf⟩ := bndS hf
  refine q_callS (rest := []) (st1 := [.int r1]) [.int a2] ⟨hx, hb, hml, hown, hts⟩ (c_X5_isGate hr1) (va_cwS 1 hts gX5_ifOpened_X5_isGate rfl rfl rfl (by decide +kernel) ⟨Nat.le_of_ble_eq_true rfl, Nat.le_of_ble_eq_true rfl⟩) hw rfl hl.1 rfl (Nat.le_of_ble_eq_true rfl) dX5_ifOpened_6 ⟨Nat.zero_le _, Nat.zero_le _⟩ rfl (fun H locs hw => ?_)
  obtain ⟨hg, hf⟩ := gdE hf
  refine q_callS (rest := []) (st1 := []) [.int r1] ⟨hx, hb, hml, hown, hts⟩ (c_X5_needIndex hg) (va_cwS 1 hts gX5_ifOpened_X5_needIndex rfl rfl rfl (by decide +kernel) ⟨Nat.le_of_ble_eq_true rfl, Nat.le_of_ble_eq_true rfl⟩) hw rfl hl.1 rfl (Nat.le_of_ble_eq_true rfl) dX5_ifOpened_9 ⟨Nat.zero_le _, Nat.zero_le _⟩ rfl (fun H locs hw => ?_)
  refine lv_iload_n hx hb dX5_ifOpened_12 rfl (lv_at hl 3 rfl) ?_
  refine lv_iconst (v := 0) hx hb dX5_ifOpened_13 (by decide) ?_
  refine lv_iconst (v := 3) hx hb dX5_ifOpened_14 (by decide) ?_
  obtain ⟨r2, hr2, hf⟩ := bndS hf
  refine q_callS (rest := []) (st1 := [.int r2]) [.int a3, .int 0, .int 3] ⟨hx, hb, hml, hown, hts⟩ (c_X5_isWithin hr2) (va_cwS 3 hts gX5_ifOpened_X5_isWithin rfl rfl rfl (by decide +kernel) ⟨Nat.le_of_ble_eq_true rfl, Nat.le_of_ble_eq_true rfl⟩) hw rfl hl.1 rfl (Nat.le_of_ble_eq_true rfl) dX5_ifOpened_15 ⟨Nat.zero_le _, Nat.zero_le _⟩ rfl (fun H locs hw => ?_)
  obtain ⟨hg, hf⟩ := gdE hf
  refine q_callS (rest := []) (st1 := []) [.int r2] ⟨hx, hb, hml, hown, hts⟩ (c_X5_needArgument hg) (va_cwS 1 hts gX5_ifOpened_X5_needArgument rfl rfl rfl (by decide +kernel) ⟨Nat.le_of_ble_eq_true rfl, Nat.le_of_ble_eq_true rfl⟩) hw rfl hl.1 rfl (Nat.le_of_ble_eq_true rfl) dX5_ifOpened_18 ⟨Nat.zero_le _, Nat.zero_le _⟩ rfl (fun H locs hw => ?_)
  refine lv_aload_n hx hb dX5_ifOpened_21 rfl (lv_at hl 0 rfl) ?_
  refine q_get hx hb hts hiX5 hown hw 0 xa_0 rfl 0 (by decide) (hts (.fieldLink RX5 10 "LaceRanks" "now" "LLaceRanks$Carnival;") (by decide +kernel)) rfl dX5_ifOpened_22 ?_
  refine lv_iload_n hx hb dX5_ifOpened_25 rfl (lv_at hl 1 rfl) ?_
  refine lv_iload_n hx hb dX5_ifOpened_26 rfl (lv_at hl 2 rfl) ?_
  refine lv_iload_n hx hb dX5_ifOpened_27 rfl (lv_at hl 3 rfl) ?_
  obtain ⟨r3, hr3, hf⟩ := bndS hf
  refine q_callVN (rest := []) (st1 := [.int r3]) [.int a1, .int a2, .int a3] ⟨hx, hb, hml, hown, hts⟩ (c_X0_gateNumber hr3) ⟨va_cnB 3 hts gX5_ifOpened_X0_gateNumber_n203 rfl rfl rfl (nw_X5_203 hw.2.2.2.2) (hts (.initialized RX0) (by decide +kernel)) (by decide +kernel) ⟨Nat.le_of_ble_eq_true rfl, Nat.le_of_ble_eq_true rfl⟩, (hts (.instanceMethod yX0_gateNumber) (by decide +kernel)), (hts (.selects RX0 yX0_gateNumber yX0_gateNumber) (by decide +kernel))⟩ hw xa_1 rfl rfl hl.1 rfl (Nat.le_of_ble_eq_true rfl) dX5_ifOpened_28 ⟨Nat.zero_le _, Nat.zero_le _⟩ rfl (fun H locs hw => ?_)
  cases hf
  exact q_iret hx hb hr hlocks hw dX5_ifOpened_31

def f_X5_bestGate (K : RK)  (a1 : Int32) : Option Int32 := gd (ndg K a1) (bnd (f_X0_gateOfFewestElls K a1) (fun r1 => some r1))
set_option maxHeartbeats 4000000 in
set_option maxRecDepth 100000 in
theorem c_X5_bestGate {l : Launch} {D : va_G} {cI cR : ClassId} {ad : Nat → Nat} {A : Nat → Prop} {O : XO} {K : RK}  {a1 : Int32} {r : Int32}  (hf : f_X5_bestGate K a1 = some r) : MC l yX5_bestGate wsX5_bestGate 5 112 D cI cR A [.ref (ad 0), .int a1] (xws cI cR ad O K) (some (.int r)) (xws cI cR ad O K) := by
  refine Met.ofW (cc := cX5_bestGate) (maxL := 2) (ret := (some .int)) (by decide) rfl ?_
  intro p e s m args below meth c s₁ B hml hv
  obtain ⟨rfl, hw⟩ := q_start hv
  have hx := B.exec
  have hb := B.bytes
  have hr := B.returns
  have hts := atoms_spec (ws := wsX5_bestGate) B.pre
  have hown : s.vm.findClass RX5 = some m.cls := findClass_of_methodNamed B.named
  have hlocks := B.notSynchronized
  have hiX5 : ∀ w ∈ wsX50, w ∈ wsX5_bestGate := by decide +kernel
  have hl := lv_entry ([.ref (ad 0), .int a1]) (n := 2) (Nat.le_of_ble_eq_true rfl)
  rw [lg_entry_eq]
  generalize (lg_sl ([.ref (ad 0), .int a1]) ++ List.replicate (2 - (lg_sl ([.ref (ad 0), .int a1])).length) Slot.unset).toArray = ls at hl ⊢
  have hl : lv_has ls 2 [(0, .ref (ad 0)), (1, .int a1)] := hl
  unfold f_X5_bestGate at hf
  obtain ⟨H, eH⟩ : ∃ H, H = s.heap := ⟨_, rfl⟩
  obtain ⟨locs, eL⟩ : ∃ L : List Loc, L = [] := ⟨_, rfl⟩
  rw [← eH, ← eL] at hw ⊢
  clear eH eL
  refine lv_aload_n hx hb dX5_bestGate_0 rfl (lv_at hl 0 rfl) ?_
  refine lv_iload_n hx hb dX5_bestGate_1 rfl (lv_at hl 1 rfl) ?_
  obtain ⟨hg, hf⟩ := gdE hf
  refine q_callV (rest := []) (st1 := []) [.int a1] ⟨hx, hb, hml, hown, hts⟩ (c_X5_needGuest hg) (cwV 1 hts gX5_bestGate_X5_needGuest rfl rfl rfl (by decide +kernel) ⟨Nat.le_of_ble_eq_true rfl, Nat.le_of_ble_eq_true rfl⟩) hw xa_0 rfl rfl hl.1 rfl (Nat.le_of_ble_eq_true rfl) dX5_bestGate_2 ⟨Nat.zero_le _, Nat.zero_le _⟩ rfl (fun H locs hw => ?_)
  refine lv_aload_n hx hb dX5_bestGate_5 rfl (lv_at hl 0 rfl) ?_
  refine q_get hx hb hts hiX5 hown hw 0 xa_0 rfl 0 (by decide) (hts (.fieldLink RX5 10 "LaceRanks" "now" "LLaceRanks$Carnival;") (by decide +kernel)) rfl dX5_bestGate_6 ?_
  refine lv_iload_n hx hb dX5_bestGate_9 rfl (lv_at hl 1 rfl) ?_
  obtain ⟨r1, hr1, hf⟩ := bndS hf
  refine q_callVN (rest := []) (st1 := [.int r1]) [.int a1] ⟨hx, hb, hml, hown, hts⟩ (c_X0_gateOfFewestElls hr1) ⟨va_cnB 1 hts gX5_bestGate_X0_gateOfFewestElls_n206 rfl rfl rfl (nw_X5_206 hw.2.2.2.2) (hts (.initialized RX0) (by decide +kernel)) (by decide +kernel) ⟨Nat.le_of_ble_eq_true rfl, Nat.le_of_ble_eq_true rfl⟩, (hts (.instanceMethod yX0_gateOfFewestElls) (by decide +kernel)), (hts (.selects RX0 yX0_gateOfFewestElls yX0_gateOfFewestElls) (by decide +kernel))⟩ hw xa_1 rfl rfl hl.1 rfl (Nat.le_of_ble_eq_true rfl) dX5_bestGate_10 ⟨Nat.zero_le _, Nat.zero_le _⟩ rfl (fun H locs hw => ?_)
  cases hf
  exact q_iret hx hb hr hlocks hw dX5_bestGate_13

def f_X5_freeIn (K : RK)  (a1 : Int32) (a2 : Int32) : Option Int32 := gd (ndg K a1) (bnd (f_X5_isGate a2) (fun r1 => gd (ndb r1) (bnd (f_X0_nightsUntilAllowed K a1 a2) (fun r2 => some r2))))
set_option maxHeartbeats 4000000 in
set_option maxRecDepth 100000 in
theorem c_X5_freeIn {l : Launch} {D : va_G} {cI cR : ClassId} {ad : Nat → Nat} {A : Nat → Prop} {O : XO} {K : RK}  {a1 : Int32} {a2 : Int32} {r : Int32}  (hf : f_X5_freeIn K a1 a2 = some r) : MC l yX5_freeIn wsX5_freeIn 5 111 D cI cR A [.ref (ad 0), .int a1, .int a2] (xws cI cR ad O K) (some (.int r)) (xws cI cR ad O K) := by
  refine Met.ofW (cc := cX5_freeIn) (maxL := 3) (ret := (some .int)) (by decide) rfl ?_
  intro p e s m args below meth c s₁ B hml hv
  obtain ⟨rfl, hw⟩ := q_start hv
  have hx := B.exec
  have hb := B.bytes
  have hr := B.returns
  have hts := atoms_spec (ws := wsX5_freeIn) B.pre
  have hown : s.vm.findClass RX5 = some m.cls := findClass_of_methodNamed B.named
  have hlocks := B.notSynchronized
  have hiX5 : ∀ w ∈ wsX50, w ∈ wsX5_freeIn := by decide +kernel
  have hl := lv_entry ([.ref (ad 0), .int a1, .int a2]) (n := 3) (Nat.le_of_ble_eq_true rfl)
  rw [lg_entry_eq]
  generalize (lg_sl ([.ref (ad 0), .int a1, .int a2]) ++ List.replicate (3 - (lg_sl ([.ref (ad 0), .int a1, .int a2])).length) Slot.unset).toArray = ls at hl ⊢
  have hl : lv_has ls 3 [(0, .ref (ad 0)), (1, .int a1), (2, .int a2)] := hl
  unfold f_X5_freeIn at hf
  obtain ⟨H, eH⟩ : ∃ H, H = s.heap := ⟨_, rfl⟩
  obtain ⟨locs, eL⟩ : ∃ L : List Loc, L = [] := ⟨_, rfl⟩
  rw [← eH, ← eL] at hw ⊢
  clear eH eL
  refine lv_aload_n hx hb dX5_freeIn_0 rfl (lv_at hl 0 rfl) ?_
  refine lv_iload_n hx hb dX5_freeIn_1 rfl (lv_at hl 1 rfl) ?_
  obtain ⟨hg, hf⟩ := gdE hf
  refine q_callV (rest := []) (st1 := []) [.int a1] ⟨hx, hb, hml, hown, hts⟩ (c_X5_needGuest hg) (cwV 1 hts gX5_freeIn_X5_needGuest rfl rfl rfl (by decide +kernel) ⟨Nat.le_of_ble_eq_true rfl, Nat.le_of_ble_eq_true rfl⟩) hw xa_0 rfl rfl hl.1 rfl (Nat.le_of_ble_eq_true rfl) dX5_freeIn_2 ⟨Nat.zero_le _, Nat.zero_le _⟩ rfl (fun H locs hw => ?_)
  refine lv_iload_n hx hb dX5_freeIn_5 rfl (lv_at hl 2 rfl) ?_
  obtain ⟨r1, hr1, hf⟩ := bndS hf
  refine q_callS (rest := []) (st1 := [.int r1]) [.int a2] ⟨hx, hb, hml, hown, hts⟩ (c_X5_isGate hr1) (va_cwS 1 hts gX5_freeIn_X5_isGate rfl rfl rfl (by decide +kernel) ⟨Nat.le_of_ble_eq_true rfl, Nat.le_of_ble_eq_true rfl⟩) hw rfl hl.1 rfl (Nat.le_of_ble_eq_true rfl) dX5_freeIn_6 ⟨Nat.zero_le _, Nat.zero_le _⟩ rfl (fun H locs hw => ?_)
  obtain ⟨hg, hf⟩ := gdE hf
  refine q_callS (rest := []) (st1 := []) [.int r1] ⟨hx, hb, hml, hown, hts⟩ (c_X5_needIndex hg) (va_cwS 1 hts gX5_freeIn_X5_needIndex rfl rfl rfl (by decide +kernel) ⟨Nat.le_of_ble_eq_true rfl, Nat.le_of_ble_eq_true rfl⟩) hw rfl hl.1 rfl (Nat.le_of_ble_eq_true rfl) dX5_freeIn_9 ⟨Nat.zero_le _, Nat.zero_le _⟩ rfl (fun H locs hw => ?_)
  refine lv_aload_n hx hb dX5_freeIn_12 rfl (lv_at hl 0 rfl) ?_
  refine q_get hx hb hts hiX5 hown hw 0 xa_0 rfl 0 (by decide) (hts (.fieldLink RX5 10 "LaceRanks" "now" "LLaceRanks$Carnival;") (by decide +kernel)) rfl dX5_freeIn_13 ?_
  refine lv_iload_n hx hb dX5_freeIn_16 rfl (lv_at hl 1 rfl) ?_
  refine lv_iload_n hx hb dX5_freeIn_17 rfl (lv_at hl 2 rfl) ?_
  obtain ⟨r2, hr2, hf⟩ := bndS hf
  refine q_callVN (rest := []) (st1 := [.int r2]) [.int a1, .int a2] ⟨hx, hb, hml, hown, hts⟩ (c_X0_nightsUntilAllowed hr2) ⟨va_cnB 2 hts gX5_freeIn_X0_nightsUntilAllowed_n209 rfl rfl rfl (nw_X5_209 hw.2.2.2.2) (hts (.initialized RX0) (by decide +kernel)) (by decide +kernel) ⟨Nat.le_of_ble_eq_true rfl, Nat.le_of_ble_eq_true rfl⟩, (hts (.instanceMethod yX0_nightsUntilAllowed) (by decide +kernel)), (hts (.selects RX0 yX0_nightsUntilAllowed yX0_nightsUntilAllowed) (by decide +kernel))⟩ hw xa_1 rfl rfl hl.1 rfl (Nat.le_of_ble_eq_true rfl) dX5_freeIn_18 ⟨Nat.zero_le _, Nat.zero_le _⟩ rfl (fun H locs hw => ?_)
  cases hf
  exact q_iret hx hb hr hlocks hw dX5_freeIn_21
