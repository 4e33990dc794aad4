def f_X6_count_b16    (M : MS) (x1 : Int32) (y0 : Int32) : Option (Int32 × MS) := bnd2 (f_X6_holds M y0) (fun r1 M2 => (if r1 = 0 then some (0, M2) else bnd (f_X6_counted M2 x1) (fun r3 => some (r3, M2))))
def f_X6_count (M : MS)  (a1 : Int32) : Option (Int32 × MS) := bnd (f_X6_in a1 0 21) (fun r1 => (if r1 = 0 then f_X6_count_b16 M a1 1 else f_X6_count_b16 M a1 0))
set_option maxHeartbeats 4000000 in
set_option maxRecDepth 100000 in
theorem c_X6_count {l : Launch} {D : va_G} {cI cR : ClassId} {ad : Nat → Nat} {A : Nat → Prop} {M : MS} {M' : MS} {a1 : Int32} {r : Int32}  (hf : f_X6_count M a1 = some (r, M')) : MC l yX6_count wsX6_count 3 66 D cI cR A [.ref (ad 0), .int a1] (mws cI ad M) (some (.int r)) (mws cI ad M') := by
  refine Met.ofW (cc := cX6_count) (maxL := 2) (ret := (some .int)) (by decide) rfl ?_
  intro p e s m args below meth c s₁ B hml hv
  obtain ⟨rfl, hw⟩ := q_start hv
  have hx := B.exec
  have hb := B.bytes
  have hr := B.returns
  have hts := atoms_spec (ws := wsX6_count) B.pre
  have hown : s.vm.findClass RX6 = some m.cls := findClass_of_methodNamed B.named
  have hlocks := B.notSynchronized
  have hl := lv_entry ([.ref (ad 0), .int a1]) (n := 2) (Nat.le_of_ble_eq_true rfl)
  rw [lg_entry_eq]
  generalize (lg_sl ([.ref (ad 0), .int a1]) ++ List.replicate (2 - (lg_sl ([.ref (ad 0), .int a1])).length) Slot.unset).toArray = ls at hl ⊢
  have hl : lv_has ls 2 [(0, .ref (ad 0)), (1, .int a1)] := hl
  unfold f_X6_count at hf
  obtain ⟨H, eH⟩ : ∃ H, H = s.heap := ⟨_, rfl⟩
  obtain ⟨locs, eL⟩ : ∃ L : List Loc, L = [] := ⟨_, rfl⟩
  rw [← eH, ← eL] at hw ⊢
  clear eH eL
  have B16 : ∀ (M : MS) (x1 : Int32) (y0 : Int32) (H : Heap) (locs : List Loc) (ls : Array Slot), f_X6_count_b16 M x1 y0 = some (r, M') → WH D cI cR A (mws cI ad M) s H locs → lv_has ls 2 [(0, .ref (ad 0)), (1, .int x1)] → W p l e (headSpec wsX6_count ({ frames := 3, cells := 0, slots := 0, locals := 66 })).room s m ([.ref (ad 0), .int a1] : List Value).toArray below meth c H locs 0 0 (MQ below (QV (some (.int r)) D A (mws cI ad M')) (([.ref (ad 0), .int a1] : List Value)).toArray s 0 0 A) (F0 m 16 ls [.int y0, .ref (ad 0)]) := by
    intro M x1 y0 H locs ls hf hw hl
    unfold f_X6_count_b16 at hf
    obtain ⟨r1, M2, hr2, hf⟩ := bnd2S hf
    refine q_callV (rest := []) (st1 := [.int r1]) [.int y0] ⟨hx, hb, hml, hown, hts⟩ (c_X6_holds hr2) (cwV 1 hts gX6_count_X6_holds rfl rfl rfl (by decide +kernel) ⟨Nat.le_of_ble_eq_true rfl, Nat.le_of_ble_eq_true rfl⟩) hw ma_0 rfl rfl hl.1 rfl (Nat.le_of_ble_eq_true rfl) dX6_count_16 ⟨Nat.zero_le _, Nat.zero_le _⟩ rfl (fun H locs hw => ?_)
    refine lv_if_eq (tgt := 30) hx hb dX6_count_19 (by decide) (fun hc => ?_) (fun hc => ?_)
    · have hf := iteT hf hc
      refine lv_iconst (v := 0) hx hb dX6_count_30 (by decide) ?_
      cases hf
      exact q_iret hx hb hr hlocks hw dX6_count_31
    · have hf := iteF hf hc
      refine lv_aload_n hx hb dX6_count_22 rfl (lv_at hl 0 rfl) ?_
      refine lv_iload_n hx hb dX6_count_23 rfl (lv_at hl 1 rfl) ?_
      obtain ⟨r3, hr3, hf⟩ := bndS hf
      refine q_callV (rest := []) (st1 := [.int r3]) [.int x1] ⟨hx, hb, hml, hown, hts⟩ (c_X6_counted hr3) (cwV 1 hts gX6_count_X6_counted rfl rfl rfl (by decide +kernel) ⟨Nat.le_of_ble_eq_true rfl, Nat.le_of_ble_eq_true rfl⟩) hw ma_0 rfl rfl hl.1 rfl (Nat.le_of_ble_eq_true rfl) dX6_count_24 ⟨Nat.zero_le _, Nat.zero_le _⟩ rfl (fun H locs hw => ?_)
      refine lv_goto (tgt := 31) hx hb dX6_count_27 (by decide) ?_
      cases hf
      exact q_iret hx hb hr hlocks hw dX6_count_31
  refine lv_aload_n hx hb dX6_count_0 rfl (lv_at hl 0 rfl) ?_
  refine lv_iload_n hx hb dX6_count_1 rfl (lv_at hl 1 rfl) ?_
  refine lv_iconst (v := 0) hx hb dX6_count_2 (by decide) ?_
  refine lv_bipush (v := 21) hx hb dX6_count_3 (by decide) ?_
  obtain ⟨r1, hr1, hf⟩ := bndS hf
  refine q_callS (rest := [.ref (ad 0)]) (st1 := [.int r1, .ref (ad 0)]) [.int a1, .int 0, .int 21] ⟨hx, hb, hml, hown, hts⟩ (c_X6_in hr1) (va_cwS 3 hts gX6_count_X6_in rfl rfl rfl (by decide +kernel) ⟨Nat.le_of_ble_eq_true rfl, Nat.le_of_ble_eq_true rfl⟩) hw rfl hl.1 rfl (Nat.le_of_ble_eq_true rfl) dX6_count_5 ⟨Nat.zero_le _, Nat.zero_le _⟩ rfl (fun H locs hw => ?_)
  refine lv_if_eq (tgt := 15) hx hb dX6_count_8 (by decide) (fun hc => ?_) (fun hc => ?_)
  · have hf := iteT hf hc
    refine lv_iconst (v := 1) hx hb dX6_count_15 (by decide) ?_
    exact B16 M a1 1 H locs ls hf hw (lv_sub hl [0, 1] rfl)
  · have hf := iteF hf hc
    refine lv_iconst (v := 0) hx hb dX6_count_11 (by decide) ?_
    refine lv_goto (tgt := 16) hx hb dX6_count_12 (by decide) ?_
    exact B16 M a1 0 H locs ls hf hw (lv_sub hl [0, 1] rfl)

def f_X6_line_b13    (M : MS) (x1 : Int32) (y0 : Int32) : Option (Int32 × MS) := bnd2 (f_X6_holds M y0) (fun r1 M2 => (if r1 = 0 then some (0, M2) else bnd (f_X6_lineLength M2 x1) (fun r3 => some (r3, M2))))
def f_X6_line (M : MS)  (a1 : Int32) : Option (Int32 × MS) := bnd (f_X6_isGate a1) (fun r1 => (if r1 = 0 then f_X6_line_b13 M a1 1 else f_X6_line_b13 M a1 0))
set_option maxHeartbeats 4000000 in
set_option maxRecDepth 100000 in
theorem c_X6_line {l : Launch} {D : va_G} {cI cR : ClassId} {ad : Nat → Nat} {A : Nat → Prop} {M : MS} {M' : MS} {a1 : Int32} {r : Int32}  (hf : f_X6_line M a1 = some (r, M')) : MC l yX6_line wsX6_line 2 42 D cI cR A [.ref (ad 0), .int a1] (mws cI ad M) (some (.int r)) (mws cI ad M') := by
  refine Met.ofW (cc := cX6_line) (maxL := 2) (ret := (some .int)) (by decide) rfl ?_
  intro p e s m args below meth c s₁ B hml hv
  obtain ⟨rfl, hw⟩ := q_start hv
  have hx := B.exec
  have hb := B.bytes
  have hr := B.returns
  have hts := atoms_spec (ws := wsX6_line) B.pre
  have hown : s.vm.findClass RX6 = some m.cls := findClass_of_methodNamed B.named
  have hlocks := B.notSynchronized
  have hl := lv_entry ([.ref (ad 0), .int a1]) (n := 2) (Nat.le_of_ble_eq_true rfl)
  rw [lg_entry_eq]
  generalize (lg_sl ([.ref (ad 0), .int a1]) ++ List.replicate (2 - (lg_sl ([.ref (ad 0), .int a1])).length) Slot.unset).toArray = ls at hl ⊢
  have hl : lv_has ls 2 [(0, .ref (ad 0)), (1, .int a1)] := hl
  unfold f_X6_line at hf
  obtain ⟨H, eH⟩ : ∃ H, H = s.heap := ⟨_, rfl⟩
  obtain ⟨locs, eL⟩ : ∃ L : List Loc, L = [] := ⟨_, rfl⟩
  rw [← eH, ← eL] at hw ⊢
  clear eH eL
  have B13 : ∀ (M : MS) (x1 : Int32) (y0 : Int32) (H : Heap) (locs : List Loc) (ls : Array Slot), f_X6_line_b13 M x1 y0 = some (r, M') → WH D cI cR A (mws cI ad M) s H locs → lv_has ls 2 [(0, .ref (ad 0)), (1, .int x1)] → W p l e (headSpec wsX6_line ({ frames := 2, cells := 0, slots := 0, locals := 42 })).room s m ([.ref (ad 0), .int a1] : List Value).toArray below meth c H locs 0 0 (MQ below (QV (some (.int r)) D A (mws cI ad M')) (([.ref (ad 0), .int a1] : List Value)).toArray s 0 0 A) (F0 m 13 ls [.int y0, .ref (ad 0)]) := by
    intro M x1 y0 H locs ls hf hw hl
    unfold f_X6_line_b13 at hf
    obtain ⟨r1, M2, hr2, hf⟩ := bnd2S hf
    refine q_callV (rest := []) (st1 := [.int r1]) [.int y0] ⟨hx, hb, hml, hown, hts⟩ (c_X6_holds hr2) (cwV 1 hts gX6_line_X6_holds rfl rfl rfl (by decide +kernel) ⟨Nat.le_of_ble_eq_true rfl, Nat.le_of_ble_eq_true rfl⟩) hw ma_0 rfl rfl hl.1 rfl (Nat.le_of_ble_eq_true rfl) dX6_line_13 ⟨Nat.zero_le _, Nat.zero_le _⟩ rfl (fun H locs hw => ?_)
    refine lv_if_eq (tgt := 27) hx hb dX6_line_16 (by decide) (fun hc => ?_) (fun hc => ?_)
    · have hf := iteT hf hc
      refine lv_iconst (v := 0) hx hb dX6_line_27 (by decide) ?_
      cases hf
      exact q_iret hx hb hr hlocks hw dX6_line_28
    · have hf := iteF hf hc
      refine lv_aload_n hx hb dX6_line_19 rfl (lv_at hl 0 rfl) ?_
      refine lv_iload_n hx hb dX6_line_20 rfl (lv_at hl 1 rfl) ?_
      obtain ⟨r3, hr3, hf⟩ := bndS hf
      refine q_callV (rest := []) (st1 := [.int r3]) [.int x1] ⟨hx, hb, hml, hown, hts⟩ (c_X6_lineLength hr3) (cwV 1 hts gX6_line_X6_lineLength rfl rfl rfl (by decide +kernel) ⟨Nat.le_of_ble_eq_true rfl, Nat.le_of_ble_eq_true rfl⟩) hw ma_0 rfl rfl hl.1 rfl (Nat.le_of_ble_eq_true rfl) dX6_line_21 ⟨Nat.zero_le _, Nat.zero_le _⟩ rfl (fun H locs hw => ?_)
      refine lv_goto (tgt := 28) hx hb dX6_line_24 (by decide) ?_
      cases hf
      exact q_iret hx hb hr hlocks hw dX6_line_28
  refine lv_aload_n hx hb dX6_line_0 rfl (lv_at hl 0 rfl) ?_
  refine lv_iload_n hx hb dX6_line_1 rfl (lv_at hl 1 rfl) ?_
  obtain ⟨r1, hr1, hf⟩ := bndS hf
  refine q_callS (rest := [.ref (ad 0)]) (st1 := [.int r1, .ref (ad 0)]) [.int a1] ⟨hx, hb, hml, hown, hts⟩ (c_X6_isGate hr1) (va_cwS 1 hts gX6_line_X6_isGate rfl rfl rfl (by decide +kernel) ⟨Nat.le_of_ble_eq_true rfl, Nat.le_of_ble_eq_true rfl⟩) hw rfl hl.1 rfl (Nat.le_of_ble_eq_true rfl) dX6_line_2 ⟨Nat.zero_le _, Nat.zero_le _⟩ rfl (fun H locs hw => ?_)
  refine lv_if_eq (tgt := 12) hx hb dX6_line_5 (by decide) (fun hc => ?_) (fun hc => ?_)
  · have hf := iteT hf hc
    refine lv_iconst (v := 1) hx hb dX6_line_12 (by decide) ?_
    exact B13 M a1 1 H locs ls hf hw (lv_sub hl [0, 1] rfl)
  · have hf := iteF hf hc
    refine lv_iconst (v := 0) hx hb dX6_line_8 (by decide) ?_
    refine lv_goto (tgt := 13) hx hb dX6_line_9 (by decide) ?_
    exact B13 M a1 0 H locs ls hf hw (lv_sub hl [0, 1] rfl)

def f_X6_noLoan_b22    (M : MS) (x1 : Int32) (x2 : Int32) (y0 : Int32) : Option (Int32 × MS) := bnd2 (f_X6_holds M y0) (fun r1 M2 => (if r1 = 0 then some (0, M2) else bnd (f_X6_whyNoLoan M2 x1 x2) (fun r3 => some (r3, M2))))
def f_X6_noLoan_b21    (M : MS) (x1 : Int32) (x2 : Int32) : Option (Int32 × MS) := f_X6_noLoan_b22 M x1 x2 1
def f_X6_noLoan (M : MS)  (a1 : Int32) (a2 : Int32) : Option (Int32 × MS) := bnd (f_X6_isGuest M a1) (fun r1 => (if r1 = 0 then f_X6_noLoan_b21 M a1 a2 else bnd (f_X6_isGuest M a2) (fun r2 => (if r2 = 0 then f_X6_noLoan_b21 M a1 a2 else f_X6_noLoan_b22 M a1 a2 0))))
set_option maxHeartbeats 4000000 in
set_option maxRecDepth 100000 in
theorem c_X6_noLoan {l : Launch} {D : va_G} {cI cR : ClassId} {ad : Nat → Nat} {A : Nat → Prop} {M : MS} {M' : MS} {a1 : Int32} {a2 : Int32} {r : Int32}  (hf : f_X6_noLoan M a1 a2 = some (r, M')) : MC l yX6_noLoan wsX6_noLoan 3 65 D cI cR A [.ref (ad 0), .int a1, .int a2] (mws cI ad M) (some (.int r)) (mws cI ad M') := by
  refine Met.ofW (cc := cX6_noLoan) (maxL := 3) (ret := (some .int)) (by decide) rfl ?_
  intro p e s m args below meth c s₁ B hml hv
  obtain ⟨rfl, hw⟩ := q_start hv
  have hx := B.exec
  have hb := B.bytes
  have hr := B.returns
  have hts := atoms_spec (ws := wsX6_noLoan) B.pre
  have hown : s.vm.findClass RX6 = some m.cls := findClass_of_methodNamed B.named
  have hlocks := B.notSynchronized
  have hl := lv_entry ([.ref (ad 0), .int a1, .int a2]) (n := 3) (Nat.le_of_ble_eq_true rfl)
  rw [lg_entry_eq]
  generalize (lg_sl ([.ref (ad 0), .int a1, .int a2]) ++ List.replicate (3 - (lg_sl ([.ref (ad 0), .int a1, .int a2])).length) Slot.unset).toArray = ls at hl ⊢
  have hl : lv_has ls 3 [(0, .ref (ad 0)), (1, .int a1), (2, .int a2)] := hl
  unfold f_X6_noLoan at hf
  obtain ⟨H, eH⟩ : ∃ H, H = s.heap := ⟨_, rfl⟩
  obtain ⟨locs, eL⟩ : ∃ L : List Loc, L = [] := ⟨_, rfl⟩
  rw [← eH, ← eL] at hw ⊢
  clear eH eL
  have B22 : ∀ (M : MS) (x1 : Int32) (x2 : Int32) (y0 : Int32) (H : Heap) (locs : List Loc) (ls : Array Slot), f_X6_noLoan_b22 M x1 x2 y0 = some (r, M') → WH D cI cR A (mws cI ad M) s H locs → lv_has ls 3 [(0, .ref (ad 0)), (1, .int x1), (2, .int x2)] → W p l e (headSpec wsX6_noLoan ({ frames := 3, cells := 0, slots := 0, locals := 65 })).room s m ([.ref (ad 0), .int a1, .int a2] : List Value).toArray below meth c H locs 0 0 (MQ below (QV (some (.int r)) D A (mws cI ad M')) (([.ref (ad 0), .int a1, .int a2] : List Value)).toArray s 0 0 A) (F0 m 22 ls [.int y0, .ref (ad 0)]) := by
    intro M x1 x2 y0 H locs ls hf hw hl
    unfold f_X6_noLoan_b22 at hf
    obtain ⟨r1, M2, hr2, hf⟩ := bnd2S hf
    refine q_callV (rest := []) (st1 := [.int r1]) [.int y0] ⟨hx, hb, hml, hown, hts⟩ (c_X6_holds hr2) (cwV 1 hts gX6_noLoan_X6_holds rfl rfl rfl (by decide +kernel) ⟨Nat.le_of_ble_eq_true rfl, Nat.le_of_ble_eq_true rfl⟩) hw ma_0 rfl rfl hl.1 rfl (Nat.le_of_ble_eq_true rfl) dX6_noLoan_22 ⟨Nat.zero_le _, Nat.zero_le _⟩ rfl (fun H locs hw => ?_)
    refine lv_if_eq (tgt := 37) hx hb dX6_noLoan_25 (by decide) (fun hc => ?_) (fun hc => ?_)
    · have hf := iteT hf hc
      refine lv_iconst (v := 0) hx hb dX6_noLoan_37 (by decide) ?_
      cases hf
      exact q_iret hx hb hr hlocks hw dX6_noLoan_38
    · have hf := iteF hf hc
      refine lv_aload_n hx hb dX6_noLoan_28 rfl (lv_at hl 0 rfl) ?_
      refine lv_iload_n hx hb dX6_noLoan_29 rfl (lv_at hl 1 rfl) ?_
      refine lv_iload_n hx hb dX6_noLoan_30 rfl (lv_at hl 2 rfl) ?_
      obtain ⟨r3, hr3, hf⟩ := bndS hf
      refine q_callV (rest := []) (st1 := [.int r3]) [.int x1, .int x2] ⟨hx, hb, hml, hown, hts⟩ (c_X6_whyNoLoan hr3) (cwV 2 hts gX6_noLoan_X6_whyNoLoan rfl rfl rfl (by decide +kernel) ⟨Nat.le_of_ble_eq_true rfl, Nat.le_of_ble_eq_true rfl⟩) hw ma_0 rfl rfl hl.1 rfl (Nat.le_of_ble_eq_true rfl) dX6_noLoan_31 ⟨Nat.zero_le _, Nat.zero_le _⟩ rfl (fun H locs hw => ?_)
      refine lv_goto (tgt := 38) hx hb dX6_noLoan_34 (by decide) ?_
      cases hf
      exact q_iret hx hb hr hlocks hw dX6_noLoan_38
  have B21 : ∀ (M : MS) (x1 : Int32) (x2 : Int32) (H : Heap) (locs : List Loc) (ls : Array Slot), f_X6_noLoan_b21 M x1 x2 = some (r, M') → WH D cI cR A (mws cI ad M) s H locs → lv_has ls 3 [(0, .ref (ad 0)), (1, .int x1), (2, .int x2)] → W p l e (headSpec wsX6_noLoan ({ frames := 3, cells := 0, slots := 0, locals := 65 })).room s m ([.ref (ad 0), .int a1, .int a2] : List Value).toArray below meth c H locs 0 0 (MQ below (QV (some (.int r)) D A (mws cI ad M')) (([.ref (ad 0), .int a1, .int a2] : List Value)).toArray s 0 0 A) (F0 m 21 ls [.ref (ad 0)]) := by
    intro M x1 x2 H locs ls hf hw hl
    unfold f_X6_noLoan_b21 at hf
    refine lv_iconst (v := 1) hx hb dX6_noLoan_21 (by decide) ?_
    exact B22 M x1 x2 1 H locs ls hf hw (lv_sub hl [0, 1, 2] rfl)
  refine lv_aload_n hx hb dX6_noLoan_0 rfl (lv_at hl 0 rfl) ?_
  refine lv_aload_n hx hb dX6_noLoan_1 rfl (lv_at hl 0 rfl) ?_
  refine lv_iload_n hx hb dX6_noLoan_2 rfl (lv_at hl 1 rfl) ?_
  obtain ⟨r1, hr1, hf⟩ := bndS hf
  refine q_callV (rest := [.ref (ad 0)]) (st1 := [.int r1, .ref (ad 0)]) [.int a1] ⟨hx, hb, hml, hown, hts⟩ (c_X6_isGuest hr1) (cwV 1 hts gX6_noLoan_X6_isGuest rfl rfl rfl (by decide +kernel) ⟨Nat.le_of_ble_eq_true rfl, Nat.le_of_ble_eq_true rfl⟩) hw ma_0 rfl rfl hl.1 rfl (Nat.le_of_ble_eq_true rfl) dX6_noLoan_3 ⟨Nat.zero_le _, Nat.zero_le _⟩ rfl (fun H locs hw => ?_)
  refine lv_if_eq (tgt := 21) hx hb dX6_noLoan_6 (by decide) (fun hc => ?_) (fun hc => ?_)
  · have hf := iteT hf hc
    exact B21 M a1 a2 H locs ls hf hw (lv_sub hl [0, 1, 2] rfl)
  · have hf := iteF hf hc
    refine lv_aload_n hx hb dX6_noLoan_9 rfl (lv_at hl 0 rfl) ?_
    refine lv_iload_n hx hb dX6_noLoan_10 rfl (lv_at hl 2 rfl) ?_
    obtain ⟨r2, hr2, hf⟩ := bndS hf
    refine q_callV (rest := [.ref (ad 0)]) (st1 := [.int r2, .ref (ad 0)]) [.int a2] ⟨hx, hb, hml, hown, hts⟩ (c_X6_isGuest hr2) (cwV 1 hts gX6_noLoan_X6_isGuest rfl rfl rfl (by decide +kernel) ⟨Nat.le_of_ble_eq_true rfl, Nat.le_of_ble_eq_true rfl⟩) hw ma_0 rfl rfl hl.1 rfl (Nat.le_of_ble_eq_true rfl) dX6_noLoan_11 ⟨Nat.zero_le _, Nat.zero_le _⟩ rfl (fun H locs hw => ?_)
    refine lv_if_eq (tgt := 21) hx hb dX6_noLoan_14 (by decide) (fun hc => ?_) (fun hc => ?_)
    · have hf := iteT hf hc
      exact B21 M a1 a2 H locs ls hf hw (lv_sub hl [0, 1, 2] rfl)
    · have hf := iteF hf hc
      refine lv_iconst (v := 0) hx hb dX6_noLoan_17 (by decide) ?_
      refine lv_goto (tgt := 22) hx hb dX6_noLoan_18 (by decide) ?_
      exact B22 M a1 a2 0 H locs ls hf hw (lv_sub hl [0, 1, 2] rfl)

def f_X6_whyNot_b14    (M : MS) (x1 : Int32) (x2 : Int32) (y0 : Int32) : Option (Int32 × MS) := bnd2 (f_X6_holds M y0) (fun r1 M2 => (if r1 = 0 then some (0, M2) else (if x2 = 0 then bnd (f_X6_whyNoLine M2 x1) (fun r3 => some (r3, M2)) else bnd (f_X6_whyNoMask M2 x1) (fun r4 => some (r4, M2)))))
def f_X6_whyNot (M : MS)  (a1 : Int32) (a2 : Int32) : Option (Int32 × MS) := bnd (f_X6_isGuest M a1) (fun r1 => (if r1 = 0 then f_X6_whyNot_b14 M a1 a2 1 else f_X6_whyNot_b14 M a1 a2 0))
set_option maxHeartbeats 4000000 in
set_option maxRecDepth 100000 in
theorem c_X6_whyNot {l : Launch} {D : va_G} {cI cR : ClassId} {ad : Nat → Nat} {A : Nat → Prop} {M : MS} {M' : MS} {a1 : Int32} {a2 : Int32} {r : Int32}  (hf : f_X6_whyNot M a1 a2 = some (r, M')) : MC l yX6_whyNot wsX6_whyNot 3 66 D cI cR A [.ref (ad 0), .int a1, .int a2] (mws cI ad M) (some (.int r)) (mws cI ad M') := by
  refine Met.ofW (cc := cX6_whyNot) (maxL := 3) (ret := (some .int)) (by decide) rfl ?_
  intro p e s m args below meth c s₁ B hml hv
  obtain ⟨rfl, hw⟩ := q_start hv
  have hx := B.exec
  have hb := B.bytes
  have hr := B.returns
  have hts := atoms_spec (ws := wsX6_whyNot) B.pre
  have hown : s.vm.findClass RX6 = some m.cls := findClass_of_methodNamed B.named
  have hlocks := B.notSynchronized
  have hl := lv_entry ([.ref (ad 0), .int a1, .int a2]) (n := 3) (Nat.le_of_ble_eq_true rfl)
  rw [lg_entry_eq]
  generalize (lg_sl ([.ref (ad 0), .int a1, .int a2]) ++ List.replicate (3 - (lg_sl ([.ref (ad 0), .int a1, .int a2])).length) Slot.unset).toArray = ls at hl ⊢
  have hl : lv_has ls 3 [(0, .ref (ad 0)), (1, .int a1), (2, .int a2)] := hl
  unfold f_X6_whyNot at hf
  obtain ⟨H, eH⟩ : ∃ H, H = s.heap := ⟨_, rfl⟩
  obtain ⟨locs, eL⟩ : ∃ L : List Loc, L = [] := ⟨_, rfl⟩
  rw [← eH, ← eL] at hw ⊢
  clear eH eL
  have B14 : ∀ (M : MS) (x1 : Int32) (x2 : Int32) (y0 : Int32) (H : Heap) (locs : List Loc) (ls : Array Slot), f_X6_whyNot_b14 M x1 x2 y0 = some (r, M') → WH D cI cR A (mws cI ad M) s H locs → lv_has ls 3 [(0, .ref (ad 0)), (1, .int x1), (2, .int x2)] → W p l e (headSpec wsX6_whyNot ({ frames := 3, cells := 0, slots := 0, locals := 66 })).room s m ([.ref (ad 0), .int a1, .int a2] : List Value).toArray below meth c H locs 0 0 (MQ below (QV (some (.int r)) D A (mws cI ad M')) (([.ref (ad 0), .int a1, .int a2] : List Value)).toArray s 0 0 A) (F0 m 14 ls [.int y0, .ref (ad 0)]) := by
    intro M x1 x2 y0 H locs ls hf hw hl
    unfold f_X6_whyNot_b14 at hf
    obtain ⟨r1, M2, hr2, hf⟩ := bnd2S hf
    refine q_callV (rest := []) (st1 := [.int r1]) [.int y0] ⟨hx, hb, hml, hown, hts⟩ (c_X6_holds hr2) (cwV 1 hts gX6_whyNot_X6_holds rfl rfl rfl (by decide +kernel) ⟨Nat.le_of_ble_eq_true rfl, Nat.le_of_ble_eq_true rfl⟩) hw ma_0 rfl rfl hl.1 rfl (Nat.le_of_ble_eq_true rfl) dX6_whyNot_14 ⟨Nat.zero_le _, Nat.zero_le _⟩ rfl (fun H locs hw => ?_)
    refine lv_if_ne (tgt := 22) hx hb dX6_whyNot_17 (by decide) (fun hc => ?_) (fun hc => ?_)
    · have hf := iteF hf hc
      refine lv_iload_n hx hb dX6_whyNot_22 rfl (lv_at hl 2 rfl) ?_
      refine lv_if_eq (tgt := 34) hx hb dX6_whyNot_23 (by decide) (fun hc => ?_) (fun hc => ?_)
      · have hf := iteT hf hc
        refine lv_aload_n hx hb dX6_whyNot_34 rfl (lv_at hl 0 rfl) ?_
        refine lv_iload_n hx hb dX6_whyNot_35 rfl (lv_at hl 1 rfl) ?_
        obtain ⟨r3, hr3, hf⟩ := bndS hf
        refine q_callV (rest := []) (st1 := [.int r3]) [.int x1] ⟨hx, hb, hml, hown, hts⟩ (c_X6_whyNoLine hr3) (cwV 1 hts gX6_whyNot_X6_whyNoLine rfl rfl rfl (by decide +kernel) ⟨Nat.le_of_ble_eq_true rfl, Nat.le_of_ble_eq_true rfl⟩) hw ma_0 rfl rfl hl.1 rfl (Nat.le_of_ble_eq_true rfl) dX6_whyNot_36 ⟨Nat.zero_le _, Nat.zero_le _⟩ rfl (fun H locs hw => ?_)
        cases hf
        exact q_iret hx hb hr hlocks hw dX6_whyNot_39
      · have hf := iteF hf hc
        refine lv_aload_n hx hb dX6_whyNot_26 rfl (lv_at hl 0 rfl) ?_
        refine lv_iload_n hx hb dX6_whyNot_27 rfl (lv_at hl 1 rfl) ?_
        obtain ⟨r4, hr4, hf⟩ := bndS hf
        refine q_callV (rest := []) (st1 := [.int r4]) [.int x1] ⟨hx, hb, hml, hown, hts⟩ (c_X6_whyNoMask hr4) (cwV 1 hts gX6_whyNot_X6_whyNoMask rfl rfl rfl (by decide +kernel) ⟨Nat.le_of_ble_eq_true rfl, Nat.le_of_ble_eq_true rfl⟩) hw ma_0 rfl rfl hl.1 rfl (Nat.le_of_ble_eq_true rfl) dX6_whyNot_28 ⟨Nat.zero_le _, Nat.zero_le _⟩ rfl (fun H locs hw => ?_)
        refine lv_goto (tgt := 39) hx hb dX6_whyNot_31 (by decide) ?_
        cases hf
        exact q_iret hx hb hr hlocks hw dX6_whyNot_39
    · have hf := iteT hf hc
      refine lv_iconst (v := 0) hx hb dX6_whyNot_20 (by decide) ?_
      cases hf
      exact q_iret hx hb hr hlocks hw dX6_whyNot_21
  refine lv_aload_n hx hb dX6_whyNot_0 rfl (lv_at hl 0 rfl) ?_
  refine lv_aload_n hx hb dX6_whyNot_1 rfl (lv_at hl 0 rfl) ?_
  refine lv_iload_n hx hb dX6_whyNot_2 rfl (lv_at hl 1 rfl) ?_
  obtain ⟨r1, hr1, hf⟩ := bndS hf
  refine q_callV (rest := [.ref (ad 0)]) (st1 := [.int r1, .ref (ad 0)]) [.int a1] ⟨hx, hb, hml, hown, hts⟩ (c_X6_isGuest hr1) (cwV 1 hts gX6_whyNot_X6_isGuest rfl rfl rfl (by decide +kernel) ⟨Nat.le_of_ble_eq_true rfl, Nat.le_of_ble_eq_true rfl⟩) hw ma_0 rfl rfl hl.1 rfl (Nat.le_of_ble_eq_true rfl) dX6_whyNot_3 ⟨Nat.zero_le _, Nat.zero_le _⟩ rfl (fun H locs hw => ?_)
  refine lv_if_eq (tgt := 13) hx hb dX6_whyNot_6 (by decide) (fun hc => ?_) (fun hc => ?_)
  · have hf := iteT hf hc
    refine lv_iconst (v := 1) hx hb dX6_whyNot_13 (by decide) ?_
    exact B14 M a1 a2 1 H locs ls hf hw (lv_sub hl [0, 1, 2] rfl)
  · have hf := iteF hf hc
    refine lv_iconst (v := 0) hx hb dX6_whyNot_9 (by decide) ?_
    refine lv_goto (tgt := 14) hx hb dX6_whyNot_10 (by decide) ?_
    exact B14 M a1 a2 0 H locs ls hf hw (lv_sub hl [0, 1, 2] rfl)

def f_X6_wouldBring (M : MS)  (a1 : Int32) (a2 : Int32) (a3 : Int32) : Option (Int32 × MS) := bnd (f_X6_judges M a1 a2) (fun M1 => gd (inb a3 5) (nm (M1.1 2 a3.toNatClampNeg) (fun v2 => some (v2, M1))))
set_option maxHeartbeats 4000000 in
set_option maxRecDepth 100000 in
theorem c_X6_wouldBring {l : Launch} {D : va_G} {cI cR : ClassId} {ad : Nat → Nat} {A : Nat → Prop} {M : MS} {M' : MS} {a1 : Int32} {a2 : Int32} {a3 : Int32} {r : Int32}  (hf : f_X6_wouldBring M a1 a2 a3 = some (r, M')) : MC l yX6_wouldBring wsX6_wouldBring 3 75 D cI cR A [.ref (ad 0), .int a1, .int a2, .int a3] (mws cI ad M) (some (.int r)) (mws cI ad M') := by
  refine Met.ofW (cc := cX6_wouldBring) (maxL := 4) (ret := (some .int)) (by decide) rfl ?_
  intro p e s m args below meth c s₁ B hml hv
  obtain ⟨rfl, hw⟩ := q_start hv
  have hx := B.exec
  have hb := B.bytes
  have hr := B.returns
  have hts := atoms_spec (ws := wsX6_wouldBring) B.pre
  have hown : s.vm.findClass RX6 = some m.cls := findClass_of_methodNamed B.named
  have hlocks := B.notSynchronized
  have hiX6 : ∀ w ∈ wsX60, w ∈ wsX6_wouldBring := by decide +kernel
  have hl := lv_entry ([.ref (ad 0), .int a1, .int a2, .int a3]) (n := 4) (Nat.le_of_ble_eq_true rfl)
  rw [lg_entry_eq]
  generalize (lg_sl ([.ref (ad 0), .int a1, .int a2, .int a3]) ++ List.replicate (4 - (lg_sl ([.ref (ad 0), .int a1, .int a2, .int a3])).length) Slot.unset).toArray = ls at hl ⊢
  have hl : lv_has ls 4 [(0, .ref (ad 0)), (1, .int a1), (2, .int a2), (3, .int a3)] := hl
  unfold f_X6_wouldBring at hf
  obtain ⟨H, eH⟩ : ∃ H, H = s.heap := ⟨_, rfl⟩
  obtain ⟨locs, eL⟩ : ∃ L : List Loc, L = [] := ⟨_, rfl⟩
  rw [← eH, ← eL] at hw ⊢
  clear eH eL
  refine lv_aload_n hx hb dX6_wouldBring_0 rfl (lv_at hl 0 rfl) ?_
  refine lv_iload_n hx hb dX6_wouldBring_1 rfl (lv_at hl 1 rfl) ?_
  refine lv_iload_n hx hb dX6_wouldBring_2 rfl (lv_at hl 2 rfl) ?_
  obtain ⟨M1, hr1, hf⟩ := bndS hf
  refine q_callV (rest := []) (st1 := []) [.int a1, .int a2] ⟨hx, hb, hml, hown, hts⟩ (c_X6_judges hr1) (cwV 2 hts gX6_wouldBring_X6_judges rfl rfl rfl (by decide +kernel) ⟨Nat.le_of_ble_eq_true rfl, Nat.le_of_ble_eq_true rfl⟩) hw ma_0 rfl rfl hl.1 rfl (Nat.le_of_ble_eq_true rfl) dX6_wouldBring_3 ⟨Nat.zero_le _, Nat.zero_le _⟩ rfl (fun H locs hw => ?_)
  refine lv_aload_n hx hb dX6_wouldBring_6 rfl (lv_at hl 0 rfl) ?_
  refine q_get hx hb hts hiX6 hown hw 0 ma_0 rfl 10 (by decide) (hts (.fieldLink RX6 16 "LaceRanksModel" "brings" "[I") (by decide +kernel)) rfl dX6_wouldBring_7 ?_
  refine lv_iload_n hx hb dX6_wouldBring_10 rfl (lv_at hl 3 rfl) ?_
  obtain ⟨hg, hf⟩ := gdE hf
  obtain ⟨v2, hv2, hf⟩ := nmE hf
  refine q_iald hx hb hw 3 ma_3 (inb_in hg) dX6_wouldBring_11 ?_
  refine q_is hv2 ?_
  cases hf
  exact q_iret hx hb hr hlocks hw dX6_wouldBring_12

def f_X6_ifOpened_b46    (M : MS) (x1 : Int32) (x2 : Int32) (x3 : Int32) (y0 : Int32) : Option (Int32 × MS) := bnd2 (f_X6_holds M y0) (fun r1 M2 => (if r1 = 0 then some (0, M2) else bnd2 (f_X6_wouldBring M2 x1 x2 x3) (fun r3 M4 => some (r3, M4))))
def f_X6_ifOpened_b20    (M : MS) (x1 : Int32) (x2 : Int32) (x3 : Int32) (y0 : Int32) : Option (Int32 × MS) := (if y0 = 0 then f_X6_ifOpened_b46 M x1 x2 x3 1 else bnd (f_X6_in x3 0 3) (fun r1 => (if r1 = 0 then f_X6_ifOpened_b46 M x1 x2 x3 2 else f_X6_ifOpened_b46 M x1 x2 x3 0)))
def f_X6_ifOpened_b19    (M : MS) (x1 : Int32) (x2 : Int32) (x3 : Int32) : Option (Int32 × MS) := f_X6_ifOpened_b20 M x1 x2 x3 0
def f_X6_ifOpened (M : MS)  (a1 : Int32) (a2 : Int32) (a3 : Int32) : Option (Int32 × MS) := bnd (f_X6_isGuest M a1) (fun r1 => (if r1 = 0 then f_X6_ifOpened_b19 M a1 a2 a3 else bnd (f_X6_isGate a2) (fun r2 => (if r2 = 0 then f_X6_ifOpened_b19 M a1 a2 a3 else f_X6_ifOpened_b20 M a1 a2 a3 1))))
set_option maxHeartbeats 4000000 in
set_option maxRecDepth 100000 in
theorem c_X6_ifOpened {l : Launch} {D : va_G} {cI cR : ClassId} {ad : Nat → Nat} {A : Nat → Prop} {M : MS} {M' : MS} {a1 : Int32} {a2 : Int32} {a3 : Int32} {r : Int32}  (hf : f_X6_ifOpened M a1 a2 a3 = some (r, M')) : MC l yX6_ifOpened wsX6_ifOpened 4 98 D cI cR A [.ref (ad 0), .int a1, .int a2, .int a3] (mws cI ad M) (some (.int r)) (mws cI ad M') := by
  refine Met.ofW (cc := cX6_ifOpened) (maxL := 5) (ret := (some .int)) (by decide) rfl ?_
  intro p e s m args below meth c s₁ B hml hv
  obtain ⟨rfl, hw⟩ := q_start hv
  have hx := B.exec
  have hb := B.bytes
  have hr := B.returns
  have hts := atoms_spec (ws := wsX6_ifOpened) B.pre
  have hown : s.vm.findClass RX6 = some m.cls := findClass_of_methodNamed B.named
  have hlocks := B.notSynchronized
  have hl := lv_entry ([.ref (ad 0), .int a1, .int a2, .int a3]) (n := 5) (Nat.le_of_ble_eq_true rfl)
  rw [lg_entry_eq]
  generalize (lg_sl ([.ref (ad 0), .int a1, .int a2, .int a3]) ++ List.replicate (5 - (lg_sl ([.ref (ad 0), .int a1, .int a2, .int a3])).length) Slot.unset).toArray = ls at hl ⊢
  have hl : lv_has ls 5 [(0, .ref (ad 0)), (1, .int a1), (2, .int a2), (3, .int a3)] := hl
  unfold f_X6_ifOpened at hf
  obtain ⟨H, eH⟩ : ∃ H, H = s.heap := ⟨_, rfl⟩
  obtain ⟨locs, eL⟩ : ∃ L : List Loc, L = [] := ⟨_, rfl⟩
  rw [← eH, ← eL] at hw ⊢
  clear eH eL
  have B46 : ∀ (M : MS) (x1 : Int32) (x2 : Int32) (x3 : Int32) (y0 : Int32) (H : Heap) (locs : List Loc) (ls : Array Slot), f_X6_ifOpened_b46 M x1 x2 x3 y0 = some (r, M') → WH D cI cR A (mws cI ad M) s H locs → lv_has ls 5 [(0, .ref (ad 0)), (1, .int x1), (2, .int x2), (3, .int x3)] → W p l e (headSpec wsX6_ifOpened ({ frames := 4, cells := 0, slots := 0, locals := 98 })).room s m ([.ref (ad 0), .int a1, .int a2, .int a3] : List Value).toArray below meth c H locs 0 0 (MQ below (QV (some (.int r)) D A (mws cI ad M')) (([.ref (ad 0), .int a1, .int a2, .int a3] : List Value)).toArray s 0 0 A) (F0 m 46 ls [.int y0, .ref (ad 0)]) := by
    intro M x1 x2 x3 y0 H locs ls hf hw hl
    unfold f_X6_ifOpened_b46 at hf
    obtain ⟨r1, M2, hr2, hf⟩ := bnd2S hf
    refine q_callV (rest := []) (st1 := [.int r1]) [.int y0] ⟨hx, hb, hml, hown, hts⟩ (c_X6_holds hr2) (cwV 1 hts gX6_ifOpened_X6_holds rfl rfl rfl (by decide +kernel) ⟨Nat.le_of_ble_eq_true rfl, Nat.le_of_ble_eq_true rfl⟩) hw ma_0 rfl rfl hl.1 rfl (Nat.le_of_ble_eq_true rfl) dX6_ifOpened_46 ⟨Nat.zero_le _, Nat.zero_le _⟩ rfl (fun H locs hw => ?_)
    refine lv_if_eq (tgt := 62) hx hb dX6_ifOpened_49 (by decide) (fun hc => ?_) (fun hc => ?_)
    · have hf := iteT hf hc
      refine lv_iconst (v := 0) hx hb dX6_ifOpened_62 (by decide) ?_
      cases hf
      exact q_iret hx hb hr hlocks hw dX6_ifOpened_63
    · have hf := iteF hf hc
      refine lv_aload_n hx hb dX6_ifOpened_52 rfl (lv_at hl 0 rfl) ?_
      refine lv_iload_n hx hb dX6_ifOpened_53 rfl (lv_at hl 1 rfl) ?_
      refine lv_iload_n hx hb dX6_ifOpened_54 rfl (lv_at hl 2 rfl) ?_
      refine lv_iload_n hx hb dX6_ifOpened_55 rfl (lv_at hl 3 rfl) ?_
      obtain ⟨r3, M4, hr4, hf⟩ := bnd2S hf
      refine q_callV (rest := []) (st1 := [.int r3]) [.int x1, .int x2, .int x3] ⟨hx, hb, hml, hown, hts⟩ (c_X6_wouldBring hr4) (cwV 3 hts gX6_ifOpened_X6_wouldBring rfl rfl rfl (by decide +kernel) ⟨Nat.le_of_ble_eq_true rfl, Nat.le_of_ble_eq_true rfl⟩) hw ma_0 rfl rfl hl.1 rfl (Nat.le_of_ble_eq_true rfl) dX6_ifOpened_56 ⟨Nat.zero_le _, Nat.zero_le _⟩ rfl (fun H locs hw => ?_)
      refine lv_goto (tgt := 63) hx hb dX6_ifOpened_59 (by decide) ?_
      cases hf
      exact q_iret hx hb hr hlocks hw dX6_ifOpened_63
  have B20 : ∀ (M : MS) (x1 : Int32) (x2 : Int32) (x3 : Int32) (y0 : Int32) (H : Heap) (locs : List Loc) (ls : Array Slot), f_X6_ifOpened_b20 M x1 x2 x3 y0 = some (r, M') → WH D cI cR A (mws cI ad M) s H locs → lv_has ls 5 [(0, .ref (ad 0)), (1, .int x1), (2, .int x2), (3, .int x3)] → W p l e (headSpec wsX6_ifOpened ({ frames := 4, cells := 0, slots := 0, locals := 98 })).room s m ([.ref (ad 0), .int a1, .int a2, .int a3] : List Value).toArray below meth c H locs 0 0 (MQ below (QV (some (.int r)) D A (mws cI ad M')) (([.ref (ad 0), .int a1, .int a2, .int a3] : List Value)).toArray s 0 0 A) (F0 m 20 ls [.int y0]) := by
    intro M x1 x2 x3 y0 H locs ls hf hw hl
    unfold f_X6_ifOpened_b20 at hf
    refine lv_istore (lv' := [(4, .int y0), (0, .ref (ad 0)), (1, .int x1), (2, .int x2), (3, .int x3)]) hx hb dX6_ifOpened_20 hl (by decide) rfl (fun ls hl => ?_)
    refine lv_aload_n hx hb dX6_ifOpened_22 rfl (lv_at hl 1 rfl) ?_
    refine lv_iload hx hb dX6_ifOpened_23 (lv_at hl 0 rfl) ?_
    refine lv_if_ne (tgt := 32) hx hb dX6_ifOpened_25 (by decide) (fun hc => ?_) (fun hc => ?_)
    · have hf := iteF hf hc
      refine lv_iload_n hx hb dX6_ifOpened_32 rfl (lv_at hl 4 rfl) ?_
      refine lv_iconst (v := 0) hx hb dX6_ifOpened_33 (by decide) ?_
      refine lv_iconst (v := 3) hx hb dX6_ifOpened_34 (by decide) ?_
      obtain ⟨r1, hr1, hf⟩ := bndS hf
      refine q_callS (rest := [.ref (ad 0)]) (st1 := [.int r1, .ref (ad 0)]) [.int x3, .int 0, .int 3] ⟨hx, hb, hml, hown, hts⟩ (c_X6_in hr1) (va_cwS 3 hts gX6_ifOpened_X6_in rfl rfl rfl (by decide +kernel) ⟨Nat.le_of_ble_eq_true rfl, Nat.le_of_ble_eq_true rfl⟩) hw rfl hl.1 rfl (Nat.le_of_ble_eq_true rfl) dX6_ifOpened_35 ⟨Nat.zero_le _, Nat.zero_le _⟩ rfl (fun H locs hw => ?_)
      refine lv_if_ne (tgt := 45) hx hb dX6_ifOpened_38 (by decide) (fun hc => ?_) (fun hc => ?_)
      · have hf := iteF hf hc
        refine lv_iconst (v := 0) hx hb dX6_ifOpened_45 (by decide) ?_
        exact B46 M x1 x2 x3 0 H locs ls hf hw (lv_sub hl [1, 2, 3, 4] rfl)
      · have hf := iteT hf hc
        refine lv_iconst (v := 2) hx hb dX6_ifOpened_41 (by decide) ?_
        refine lv_goto (tgt := 46) hx hb dX6_ifOpened_42 (by decide) ?_
        exact B46 M x1 x2 x3 2 H locs ls hf hw (lv_sub hl [1, 2, 3, 4] rfl)
    · have hf := iteT hf hc
      refine lv_iconst (v := 1) hx hb dX6_ifOpened_28 (by decide) ?_
      refine lv_goto (tgt := 46) hx hb dX6_ifOpened_29 (by decide) ?_
      exact B46 M x1 x2 x3 1 H locs ls hf hw (lv_sub hl [1, 2, 3, 4] rfl)
  have B19 : ∀ (M : MS) (x1 : Int32) (x2 : Int32) (x3 : Int32) (H : Heap) (locs : List Loc) (ls : Array Slot), f_X6_ifOpened_b19 M x1 x2 x3 = some (r, M') → WH D cI cR A (mws cI ad M) s H locs → lv_has ls 5 [(0, .ref (ad 0)), (1, .int x1), (2, .int x2), (3, .int x3)] → W p l e (headSpec wsX6_ifOpened ({ frames := 4, cells := 0, slots := 0, locals := 98 })).room s m ([.ref (ad 0), .int a1, .int a2, .int a3] : List Value).toArray below meth c H locs 0 0 (MQ below (QV (some (.int r)) D A (mws cI ad M')) (([.ref (ad 0), .int a1, .int a2, .int a3] : List Value)).toArray s 0 0 A) (F0 m 19 ls []) := by
    intro M x1 x2 x3 H locs ls hf hw hl
    unfold f_X6_ifOpened_b19 at hf
    refine lv_iconst (v := 0) hx hb dX6_ifOpened_19 (by decide) ?_
    exact B20 M x1 x2 x3 0 H locs ls hf hw (lv_sub hl [0, 1, 2, 3] rfl)
  refine lv_aload_n hx hb dX6_ifOpened_0 rfl (lv_at hl 0 rfl) ?_
  refine lv_iload_n hx hb dX6_ifOpened_1 rfl (lv_at hl 1 rfl) ?_
  obtain ⟨r1, hr1, hf⟩ := bndS hf
  refine q_callV (rest := []) (st1 := [.int r1]) [.int a1] ⟨hx, hb, hml, hown, hts⟩ (c_X6_isGuest hr1) (cwV 1 hts gX6_ifOpened_X6_isGuest rfl rfl rfl (by decide +kernel) ⟨Nat.le_of_ble_eq_true rfl, Nat.le_of_ble_eq_true rfl⟩) hw ma_0 rfl rfl hl.1 rfl (Nat.le_of_ble_eq_true rfl) dX6_ifOpened_2 ⟨Nat.zero_le _, Nat.zero_le _⟩ rfl (fun H locs hw => ?_)
  refine lv_if_eq (tgt := 19) hx hb dX6_ifOpened_5 (by decide) (fun hc => ?_) (fun hc => ?_)
  · have hf := iteT hf hc
    exact B19 M a1 a2 a3 H locs ls hf hw (lv_sub hl [0, 1, 2, 3] rfl)
  · have hf := iteF hf hc
    refine lv_iload_n hx hb dX6_ifOpened_8 rfl (lv_at hl 2 rfl) ?_
    obtain ⟨r2, hr2, hf⟩ := bndS hf
    refine q_callS (rest := []) (st1 := [.int r2]) [.int a2] ⟨hx, hb, hml, hown, hts⟩ (c_X6_isGate hr2) (va_cwS 1 hts gX6_ifOpened_X6_isGate rfl rfl rfl (by decide +kernel) ⟨Nat.le_of_ble_eq_true rfl, Nat.le_of_ble_eq_true rfl⟩) hw rfl hl.1 rfl (Nat.le_of_ble_eq_true rfl) dX6_ifOpened_9 ⟨Nat.zero_le _, Nat.zero_le _⟩ rfl (fun H locs hw => ?_)
    refine lv_if_eq (tgt := 19) hx hb dX6_ifOpened_12 (by decide) (fun hc => ?_) (fun hc => ?_)
    · have hf := iteT hf hc
      exact B19 M a1 a2 a3 H locs ls hf hw (lv_sub hl [0, 1, 2, 3] rfl)
    · have hf := iteF hf hc
      refine lv_iconst (v := 1) hx hb dX6_ifOpened_15 (by decide) ?_
      refine lv_goto (tgt := 20) hx hb dX6_ifOpened_16 (by decide) ?_
      exact B20 M a1 a2 a3 1 H locs ls hf hw (lv_sub hl [0, 1, 2, 3] rfl)

def f_X6_best_b60 (k22 : MS → Int32 → Int32 → Int32 → Int32 → Option (Int32 × MS))   (M : MS) (x1 : Int32) (x3 : Int32) (x4 : Int32) (x5 : Int32) (y0 : Int32) : Option (Int32 × MS) := bnd (f_X6_lesser x5 x3) (fun r1 => nm (x4 + 1) (fun v2 => k22 M x1 y0 r1 v2))
def f_X6_best_l22    : Nat → MS → Int32 → Int32 → Int32 → Int32 → Option (Int32 × MS)
  | 0, _, _, _, _, _ => none
  | n22 + 1, M, x1, x2, x3, x4 => (if 3 ≤ x4 then some (x2, M) else bnd2 (f_X6_wouldBring M x1 x4 0) (fun r1 M2 => bnd (f_X6_lineLength M2 x4) (fun r3 => nm ((16 * r1) + r3) (fun v4 => (if x3 ≤ v4 then f_X6_best_b60 (f_X6_best_l22 n22) M2 x1 x3 x4 v4 x2 else f_X6_best_b60 (f_X6_best_l22 n22) M2 x1 x3 x4 v4 x4)))))
def f_X6_best (M : MS)  (a1 : Int32) : Option (Int32 × MS) := bnd2 (f_X6_wouldBring M a1 0 0) (fun r1 M2 => bnd (f_X6_lineLength M2 0) (fun r3 => nm ((16 * r1) + r3) (fun v4 => f_X6_best_l22 fuelN M2 a1 0 v4 1)))
set_option maxHeartbeats 4000000 in
set_option maxRecDepth 100000 in
theorem c_X6_best {l : Launch} {D : va_G} {cI cR : ClassId} {ad : Nat → Nat} {A : Nat → Prop} {M : MS} {M' : MS} {a1 : Int32} {r : Int32}  (hf : f_X6_best M a1 = some (r, M')) : MC l yX6_best wsX6_best 4 98 D cI cR A [.ref (ad 0), .int a1] (mws cI ad M) (some (.int r)) (mws cI ad M') := by
  refine Met.ofW (cc := cX6_best) (maxL := 6) (ret := (some .int)) (by decide) rfl ?_
  intro p e s m args below meth c s₁ B hml hv
  obtain ⟨rfl, hw⟩ := q_start hv
  have hx := B.exec
  have hb := B.bytes
  have hr := B.returns
  have hts := atoms_spec (ws := wsX6_best) B.pre
  have hown : s.vm.findClass RX6 = some m.cls := findClass_of_methodNamed B.named
  have hlocks := B.notSynchronized
  have hl := lv_entry ([.ref (ad 0), .int a1]) (n := 6) (Nat.le_of_ble_eq_true rfl)
  rw [lg_entry_eq]
  generalize (lg_sl ([.ref (ad 0), .int a1]) ++ List.replicate (6 - (lg_sl ([.ref (ad 0), .int a1])).length) Slot.unset).toArray = ls at hl ⊢
  have hl : lv_has ls 6 [(0, .ref (ad 0)), (1, .int a1)] := hl
  unfold f_X6_best at hf
  obtain ⟨H, eH⟩ : ∃ H, H = s.heap := ⟨_, rfl⟩
  obtain ⟨locs, eL⟩ : ∃ L : List Loc, L = [] := ⟨_, rfl⟩
  rw [← eH, ← eL] at hw ⊢
  clear eH eL
  have L22 : ∀ (n22 : Nat) (M : MS) (x1 : Int32) (x2 : Int32) (x3 : Int32) (x4 : Int32) (H : Heap) (locs : List Loc) (ls : Array Slot), f_X6_best_l22 n22 M x1 x2 x3 x4 = some (r, M') → WH D cI cR A (mws cI ad M) s H locs → lv_has ls 6 [(0, .ref (ad 0)), (1, .int x1), (2, .int x2), (3, .int x3), (4, .int x4)] → W p l e (headSpec wsX6_best ({ frames := 4, cells := 0, slots := 0, locals := 98 })).room s m ([.ref (ad 0), .int a1] : List Value).toArray below meth c H locs 0 0 (MQ below (QV (some (.int r)) D A (mws cI ad M')) (([.ref (ad 0), .int a1] : List Value)).toArray s 0 0 A) (F0 m 22 ls []) := by
    intro n22
    induction n22 with
    | zero => intro M x1 x2 x3 x4 H locs ls hf; cases hf
    | succ n22 ih =>
      have ih22 := ih
      have B60 : ∀ (M : MS) (x1 : Int32) (x3 : Int32) (x4 : Int32) (x5 : Int32) (y0 : Int32) (H : Heap) (locs : List Loc) (ls : Array Slot), f_X6_best_b60 (f_X6_best_l22 n22) M x1 x3 x4 x5 y0 = some (r, M') → WH D cI cR A (mws cI ad M) s H locs → lv_has ls 6 [(0, .ref (ad 0)), (1, .int x1), (3, .int x3), (4, .int x4), (5, .int x5)] → W p l e (headSpec wsX6_best ({ frames := 4, cells := 0, slots := 0, locals := 98 })).room s m ([.ref (ad 0), .int a1] : List Value).toArray below meth c H locs 0 0 (MQ below (QV (some (.int r)) D A (mws cI ad M')) (([.ref (ad 0), .int a1] : List Value)).toArray s 0 0 A) (F0 m 60 ls [.int y0]) := by
        intro M x1 x3 x4 x5 y0 H locs ls hf hw hl
        unfold f_X6_best_b60 at hf
        refine lv_istore_n (lv' := [(2, .int y0), (0, .ref (ad 0)), (1, .int x1), (3, .int x3), (4, .int x4), (5, .int x5)]) hx hb dX6_best_60 rfl hl (by decide) rfl (fun ls hl => ?_)
        refine lv_iload hx hb dX6_best_61 (lv_at hl 5 rfl) ?_
        refine lv_iload_n hx hb dX6_best_63 rfl (lv_at hl 3 rfl) ?_
        obtain ⟨r1, hr1, hf⟩ := bndS hf
        refine q_callS (rest := []) (st1 := [.int r1]) [.int x5, .int x3] ⟨hx, hb, hml, hown, hts⟩ (c_X6_lesser hr1) (va_cwS 2 hts gX6_best_X6_lesser rfl rfl rfl (by decide +kernel) ⟨Nat.le_of_ble_eq_true rfl, Nat.le_of_ble_eq_true rfl⟩) hw rfl hl.1 rfl (Nat.le_of_ble_eq_true rfl) dX6_best_64 ⟨Nat.zero_le _, Nat.zero_le _⟩ rfl (fun H locs hw => ?_)
        refine lv_istore_n (lv' := [(3, .int r1), (2, .int y0), (0, .ref (ad 0)), (1, .int x1), (4, .int x4), (5, .int x5)]) hx hb dX6_best_67 rfl hl (by decide) rfl (fun ls hl => ?_)
        obtain ⟨v2, hv2, hf⟩ := nmE hf
        refine lv_iinc (v := v2) (lv' := [(4, .int v2), (3, .int r1), (2, .int y0), (0, .ref (ad 0)), (1, .int x1), (5, .int x5)]) hx hb dX6_best_68 hl (k := 4) rfl (by rw [hv2]; rfl) (by decide) rfl (fun ls hl => ?_)
        refine lv_goto (tgt := 22) hx hb dX6_best_71 (by decide) ?_
        exact ih22 M x1 y0 r1 v2 H locs ls hf hw (lv_sub hl [3, 4, 2, 1, 0] rfl)
      intro M x1 x2 x3 x4 H locs ls hf hw hl
      simp only [f_X6_best_l22] at hf
      refine lv_iload hx hb dX6_best_22 (lv_at hl 4 rfl) ?_
      refine lv_iconst (v := 3) hx hb dX6_best_24 (by decide) ?_
      refine lv_icmp_ge (tgt := 74) hx hb dX6_best_25 (by decide) (fun hc => ?_) (fun hc => ?_)
      · have hf := iteT hf hc
        refine lv_iload_n hx hb dX6_best_74 rfl (lv_at hl 2 rfl) ?_
        cases hf
        exact q_iret hx hb hr hlocks hw dX6_best_75
      · have hf := iteF hf hc
        refine lv_bipush (v := 16) hx hb dX6_best_28 (by decide) ?_
        refine lv_aload_n hx hb dX6_best_30 rfl (lv_at hl 0 rfl) ?_
        refine lv_iload_n hx hb dX6_best_31 rfl (lv_at hl 1 rfl) ?_
        refine lv_iload hx hb dX6_best_32 (lv_at hl 4 rfl) ?_
        refine lv_iconst (v := 0) hx hb dX6_best_34 (by decide) ?_
        obtain ⟨r1, M2, hr2, hf⟩ := bnd2S hf
        refine q_callV (rest := [.int 16]) (st1 := [.int r1, .int 16]) [.int x1, .int x4, .int 0] ⟨hx, hb, hml, hown, hts⟩ (c_X6_wouldBring hr2) (cwV 3 hts gX6_best_X6_wouldBring rfl rfl rfl (by decide +kernel) ⟨Nat.le_of_ble_eq_true rfl, Nat.le_of_ble_eq_true rfl⟩) hw ma_0 rfl rfl hl.1 rfl (Nat.le_of_ble_eq_true rfl) dX6_best_35 ⟨Nat.zero_le _, Nat.zero_le _⟩ rfl (fun H locs hw => ?_)
        refine lv_imul hx hb dX6_best_38 ?_
        refine lv_aload_n hx hb dX6_best_39 rfl (lv_at hl 0 rfl) ?_
        refine lv_iload hx hb dX6_best_40 (lv_at hl 4 rfl) ?_
        obtain ⟨r3, hr3, hf⟩ := bndS hf
        refine q_callV (rest := [.int (16 * r1)]) (st1 := [.int r3, .int (16 * r1)]) [.int x4] ⟨hx, hb, hml, hown, hts⟩ (c_X6_lineLength hr3) (cwV 1 hts gX6_best_X6_lineLength rfl rfl rfl (by decide +kernel) ⟨Nat.le_of_ble_eq_true rfl, Nat.le_of_ble_eq_true rfl⟩) hw ma_0 rfl rfl hl.1 rfl (Nat.le_of_ble_eq_true rfl) dX6_best_42 ⟨Nat.zero_le _, Nat.zero_le _⟩ rfl (fun H locs hw => ?_)
        refine lv_iadd hx hb dX6_best_45 ?_
        obtain ⟨v4, hv4, hf⟩ := nmE hf
        refine q_is hv4 ?_
        refine lv_istore (lv' := [(5, .int v4), (0, .ref (ad 0)), (1, .int x1), (2, .int x2), (3, .int x3), (4, .int x4)]) hx hb dX6_best_46 hl (by decide) rfl (fun ls hl => ?_)
        refine lv_iload hx hb dX6_best_48 (lv_at hl 0 rfl) ?_
        refine lv_iload_n hx hb dX6_best_50 rfl (lv_at hl 4 rfl) ?_
        refine lv_icmp_ge (tgt := 59) hx hb dX6_best_51 (by decide) (fun hc => ?_) (fun hc => ?_)
        · have hf := iteT hf hc
          refine lv_iload_n hx hb dX6_best_59 rfl (lv_at hl 3 rfl) ?_
          exact B60 M2 x1 x3 x4 v4 x2 H locs ls hf hw (lv_sub hl [1, 2, 4, 5, 0] rfl)
        · have hf := iteF hf hc
          refine lv_iload hx hb dX6_best_54 (lv_at hl 5 rfl) ?_
          refine lv_goto (tgt := 60) hx hb dX6_best_56 (by decide) ?_
          exact B60 M2 x1 x3 x4 v4 x4 H locs ls hf hw (lv_sub hl [1, 2, 4, 5, 0] rfl)
  refine lv_iconst (v := 0) hx hb dX6_best_0 (by decide) ?_
  refine lv_istore_n (lv' := [(2, .int 0), (0, .ref (ad 0)), (1, .int a1)]) hx hb dX6_best_1 rfl hl (by decide) rfl (fun ls hl => ?_)
  refine lv_bipush (v := 16) hx hb dX6_best_2 (by decide) ?_
  refine lv_aload_n hx hb dX6_best_4 rfl (lv_at hl 1 rfl) ?_
  refine lv_iload_n hx hb dX6_best_5 rfl (lv_at hl 2 rfl) ?_
  refine lv_iconst (v := 0) hx hb dX6_best_6 (by decide) ?_
  refine lv_iconst (v := 0) hx hb dX6_best_7 (by decide) ?_
  obtain ⟨r1, M2, hr2, hf⟩ := bnd2S hf
  refine q_callV (rest := [.int 16]) (st1 := [.int r1, .int 16]) [.int a1, .int 0, .int 0] ⟨hx, hb, hml, hown, hts⟩ (c_X6_wouldBring hr2) (cwV 3 hts gX6_best_X6_wouldBring rfl rfl rfl (by decide +kernel) ⟨Nat.le_of_ble_eq_true rfl, Nat.le_of_ble_eq_true rfl⟩) hw ma_0 rfl rfl hl.1 rfl (Nat.le_of_ble_eq_true rfl) dX6_best_8 ⟨Nat.zero_le _, Nat.zero_le _⟩ rfl (fun H locs hw => ?_)
  refine lv_imul hx hb dX6_best_11 ?_
  refine lv_aload_n hx hb dX6_best_12 rfl (lv_at hl 1 rfl) ?_
  refine lv_iconst (v := 0) hx hb dX6_best_13 (by decide) ?_
  obtain ⟨r3, hr3, hf⟩ := bndS hf
  refine q_callV (rest := [.int (16 * r1)]) (st1 := [.int r3, .int (16 * r1)]) [.int 0] ⟨hx, hb, hml, hown, hts⟩ (c_X6_lineLength hr3) (cwV 1 hts gX6_best_X6_lineLength rfl rfl rfl (by decide +kernel) ⟨Nat.le_of_ble_eq_true rfl, Nat.le_of_ble_eq_true rfl⟩) hw ma_0 rfl rfl hl.1 rfl (Nat.le_of_ble_eq_true rfl) dX6_best_14 ⟨Nat.zero_le _, Nat.zero_le _⟩ rfl (fun H locs hw => ?_)
  refine lv_iadd hx hb dX6_best_17 ?_
  obtain ⟨v4, hv4, hf⟩ := nmE hf
  refine q_is hv4 ?_
  refine lv_istore_n (lv' := [(3, .int v4), (2, .int 0), (0, .ref (ad 0)), (1, .int a1)]) hx hb dX6_best_18 rfl hl (by decide) rfl (fun ls hl => ?_)
  refine lv_iconst (v := 1) hx hb dX6_best_19 (by decide) ?_
  refine lv_istore (lv' := [(4, .int 1), (3, .int v4), (2, .int 0), (0, .ref (ad 0)), (1, .int a1)]) hx hb dX6_best_20 hl (by decide) rfl (fun ls hl => ?_)
  exact L22 fuelN M2 a1 0 v4 1 H locs ls hf hw (lv_sub hl [3, 4, 2, 1, 0] rfl)

def f_X6_bestGate_b14    (M : MS) (x1 : Int32) (y0 : Int32) : Option (Int32 × MS) := bnd2 (f_X6_holds M y0) (fun r1 M2 => (if r1 = 0 then some (0, M2) else bnd2 (f_X6_best M2 x1) (fun r3 M4 => some (r3, M4))))
def f_X6_bestGate (M : MS)  (a1 : Int32) : Option (Int32 × MS) := bnd (f_X6_isGuest M a1) (fun r1 => (if r1 = 0 then f_X6_bestGate_b14 M a1 1 else f_X6_bestGate_b14 M a1 0))
set_option maxHeartbeats 4000000 in
set_option maxRecDepth 100000 in
theorem c_X6_bestGate {l : Launch} {D : va_G} {cI cR : ClassId} {ad : Nat → Nat} {A : Nat → Prop} {M : MS} {M' : MS} {a1 : Int32} {r : Int32}  (hf : f_X6_bestGate M a1 = some (r, M')) : MC l yX6_bestGate wsX6_bestGate 5 123 D cI cR A [.ref (ad 0), .int a1] (mws cI ad M) (some (.int r)) (mws cI ad M') := by
  refine Met.ofW (cc := cX6_bestGate) (maxL := 2) (ret := (some .int)) (by decide) rfl ?_
  intro p e s m args below meth c s₁ B hml hv
  obtain ⟨rfl, hw⟩ := q_start hv
  have hx := B.exec
  have hb := B.bytes
  have hr := B.returns
  have hts := atoms_spec (ws := wsX6_bestGate) B.pre
  have hown : s.vm.findClass RX6 = some m.cls := findClass_of_methodNamed B.named
  have hlocks := B.notSynchronized
  have hl := lv_entry ([.ref (ad 0), .int a1]) (n := 2) (Nat.le_of_ble_eq_true rfl)
  rw [lg_entry_eq]
  generalize (lg_sl ([.ref (ad 0), .int a1]) ++ List.replicate (2 - (lg_sl ([.ref (ad 0), .int a1])).length) Slot.unset).toArray = ls at hl ⊢
  have hl : lv_has ls 2 [(0, .ref (ad 0)), (1, .int a1)] := hl
  unfold f_X6_bestGate at hf
  obtain ⟨H, eH⟩ : ∃ H, H = s.heap := ⟨_, rfl⟩
  obtain ⟨locs, eL⟩ : ∃ L : List Loc, L = [] := ⟨_, rfl⟩
  rw [← eH, ← eL] at hw ⊢
  clear eH eL
  have B14 : ∀ (M : MS) (x1 : Int32) (y0 : Int32) (H : Heap) (locs : List Loc) (ls : Array Slot), f_X6_bestGate_b14 M x1 y0 = some (r, M') → WH D cI cR A (mws cI ad M) s H locs → lv_has ls 2 [(0, .ref (ad 0)), (1, .int x1)] → W p l e (headSpec wsX6_bestGate ({ frames := 5, cells := 0, slots := 0, locals := 123 })).room s m ([.ref (ad 0), .int a1] : List Value).toArray below meth c H locs 0 0 (MQ below (QV (some (.int r)) D A (mws cI ad M')) (([.ref (ad 0), .int a1] : List Value)).toArray s 0 0 A) (F0 m 14 ls [.int y0, .ref (ad 0)]) := by
    intro M x1 y0 H locs ls hf hw hl
    unfold f_X6_bestGate_b14 at hf
    obtain ⟨r1, M2, hr2, hf⟩ := bnd2S hf
    refine q_callV (rest := []) (st1 := [.int r1]) [.int y0] ⟨hx, hb, hml, hown, hts⟩ (c_X6_holds hr2) (cwV 1 hts gX6_bestGate_X6_holds rfl rfl rfl (by decide +kernel) ⟨Nat.le_of_ble_eq_true rfl, Nat.le_of_ble_eq_true rfl⟩) hw ma_0 rfl rfl hl.1 rfl (Nat.le_of_ble_eq_true rfl) dX6_bestGate_14 ⟨Nat.zero_le _, Nat.zero_le _⟩ rfl (fun H locs hw => ?_)
    refine lv_if_eq (tgt := 28) hx hb dX6_bestGate_17 (by decide) (fun hc => ?_) (fun hc => ?_)
    · have hf := iteT hf hc
      refine lv_iconst (v := 0) hx hb dX6_bestGate_28 (by decide) ?_
      cases hf
      exact q_iret hx hb hr hlocks hw dX6_bestGate_29
    · have hf := iteF hf hc
      refine lv_aload_n hx hb dX6_bestGate_20 rfl (lv_at hl 0 rfl) ?_
      refine lv_iload_n hx hb dX6_bestGate_21 rfl (lv_at hl 1 rfl) ?_
      obtain ⟨r3, M4, hr4, hf⟩ := bnd2S hf
      refine q_callV (rest := []) (st1 := [.int r3]) [.int x1] ⟨hx, hb, hml, hown, hts⟩ (c_X6_best hr4) (cwV 1 hts gX6_bestGate_X6_best rfl rfl rfl (by decide +kernel) ⟨Nat.le_of_ble_eq_true rfl, Nat.le_of_ble_eq_true rfl⟩) hw ma_0 rfl rfl hl.1 rfl (Nat.le_of_ble_eq_true rfl) dX6_bestGate_22 ⟨Nat.zero_le _, Nat.zero_le _⟩ rfl (fun H locs hw => ?_)
      refine lv_goto (tgt := 29) hx hb dX6_bestGate_25 (by decide) ?_
      cases hf
      exact q_iret hx hb hr hlocks hw dX6_bestGate_29
  refine lv_aload_n hx hb dX6_bestGate_0 rfl (lv_at hl 0 rfl) ?_
  refine lv_aload_n hx hb dX6_bestGate_1 rfl (lv_at hl 0 rfl) ?_
  refine lv_iload_n hx hb dX6_bestGate_2 rfl (lv_at hl 1 rfl) ?_
  obtain ⟨r1, hr1, hf⟩ := bndS hf
  refine q_callV (rest := [.ref (ad 0)]) (st1 := [.int r1, .ref (ad 0)]) [.int a1] ⟨hx, hb, hml, hown, hts⟩ (c_X6_isGuest hr1) (cwV 1 hts gX6_bestGate_X6_isGuest rfl rfl rfl (by decide +kernel) ⟨Nat.le_of_ble_eq_true rfl, Nat.le_of_ble_eq_true rfl⟩) hw ma_0 rfl rfl hl.1 rfl (Nat.le_of_ble_eq_true rfl) dX6_bestGate_3 ⟨Nat.zero_le _, Nat.zero_le _⟩ rfl (fun H locs hw => ?_)
  refine lv_if_eq (tgt := 13) hx hb dX6_bestGate_6 (by decide) (fun hc => ?_) (fun hc => ?_)
  · have hf := iteT hf hc
    refine lv_iconst (v := 1) hx hb dX6_bestGate_13 (by decide) ?_
    exact B14 M a1 1 H locs ls hf hw (lv_sub hl [0, 1] rfl)
  · have hf := iteF hf hc
    refine lv_iconst (v := 0) hx hb dX6_bestGate_9 (by decide) ?_
    refine lv_goto (tgt := 14) hx hb dX6_bestGate_10 (by decide) ?_
    exact B14 M a1 0 H locs ls hf hw (lv_sub hl [0, 1] rfl)

def f_X6_free_l2  (M : MS)  : Nat → Int32 → Int32 → Int32 → Option Int32
  | 0, _, _, _ => none
  | n2 + 1, x1, x2, x3 => (if 6 < x3 then some (-1) else bnd (f_X6_worn M x1) (fun r1 => bnd (f_X6_of M x1 0) (fun r2 => gd (inb 0 952) (nm (M.1 0 (0 : Int32).toNatClampNeg) (fun v3 => bnd (f_X6_allowed M x2 r2 (v3 + x3)) (fun r4 => (if r4 < r1 then nm (x3 + 1) (fun v5 => (f_X6_free_l2 M n2) x1 x2 v5) else some x3)))))))
def f_X6_free (M : MS)  (a1 : Int32) (a2 : Int32) : Option Int32 := f_X6_free_l2 M fuelN a1 a2 0
set_option maxHeartbeats 4000000 in
set_option maxRecDepth 100000 in
theorem c_X6_free {l : Launch} {D : va_G} {cI cR : ClassId} {ad : Nat → Nat} {A : Nat → Prop} {M : MS}  {a1 : Int32} {a2 : Int32} {r : Int32}  (hf : f_X6_free M a1 a2 = some r) : MC l yX6_free wsX6_free 2 44 D cI cR A [.ref (ad 0), .int a1, .int a2] (mws cI ad M) (some (.int r)) (mws cI ad M) := by
  refine Met.ofW (cc := cX6_free) (maxL := 4) (ret := (some .int)) (by decide) rfl ?_
  intro p e s m args below meth c s₁ B hml hv
  obtain ⟨rfl, hw⟩ := q_start hv
  have hx := B.exec
  have hb := B.bytes
  have hr := B.returns
  have hts := atoms_spec (ws := wsX6_free) B.pre
  have hown : s.vm.findClass RX6 = some m.cls := findClass_of_methodNamed B.named
  have hlocks := B.notSynchronized
  have hiX6 : ∀ w ∈ wsX60, w ∈ wsX6_free := by decide +kernel
  have hl := lv_entry ([.ref (ad 0), .int a1, .int a2]) (n := 4) (Nat.le_of_ble_eq_true rfl)
  rw [lg_entry_eq]
  generalize (lg_sl ([.ref (ad 0), .int a1, .int a2]) ++ List.replicate (4 - (lg_sl ([.ref (ad 0), .int a1, .int a2])).length) Slot.unset).toArray = ls at hl ⊢
  have hl : lv_has ls 4 [(0, .ref (ad 0)), (1, .int a1), (2, .int a2)] := hl
  unfold f_X6_free at hf
  obtain ⟨H, eH⟩ : ∃ H, H = s.heap := ⟨_, rfl⟩
  obtain ⟨locs, eL⟩ : ∃ L : List Loc, L = [] := ⟨_, rfl⟩
  rw [← eH, ← eL] at hw ⊢
  clear eH eL
  have L2 : ∀ (n2 : Nat) (x1 : Int32) (x2 : Int32) (x3 : Int32) (H : Heap) (locs : List Loc) (ls : Array Slot), f_X6_free_l2 M n2 x1 x2 x3 = some r → WH D cI cR A (mws cI ad M) s H locs → lv_has ls 4 [(0, .ref (ad 0)), (1, .int x1), (2, .int x2), (3, .int x3)] → W p l e (headSpec wsX6_free ({ frames := 2, cells := 0, slots := 0, locals := 44 })).room s m ([.ref (ad 0), .int a1, .int a2] : List Value).toArray below meth c H locs 0 0 (MQ below (QV (some (.int r)) D A (mws cI ad M)) (([.ref (ad 0), .int a1, .int a2] : List Value)).toArray s 0 0 A) (F0 m 2 ls []) := by
    intro n2
    induction n2 with
    | zero => intro x1 x2 x3 H locs ls hf; cases hf
    | succ n2 ih =>
      have ih2 := ih
      intro x1 x2 x3 H locs ls hf hw hl
      simp only [f_X6_free_l2] at hf
      refine lv_iload_n hx hb dX6_free_2 rfl (lv_at hl 3 rfl) ?_
      refine lv_bipush (v := 6) hx hb dX6_free_3 (by decide) ?_
      refine lv_icmp_gt (tgt := 43) hx hb dX6_free_5 (by decide) (fun hc => ?_) (fun hc => ?_)
      · have hf := iteT hf hc
        refine lv_iconst (v := (-1)) hx hb dX6_free_43 (by decide) ?_
        cases hf
        exact q_iret hx hb hr hlocks hw dX6_free_44
      · have hf := iteF hf hc
        refine lv_aload_n hx hb dX6_free_8 rfl (lv_at hl 0 rfl) ?_
        refine lv_iload_n hx hb dX6_free_9 rfl (lv_at hl 1 rfl) ?_
        obtain ⟨r1, hr1, hf⟩ := bndS hf
        refine q_callV (rest := []) (st1 := [.int r1]) [.int x1] ⟨hx, hb, hml, hown, hts⟩ (c_X6_worn hr1) (cwV 1 hts gX6_free_X6_worn rfl rfl rfl (by decide +kernel) ⟨Nat.le_of_ble_eq_true rfl, Nat.le_of_ble_eq_true rfl⟩) hw ma_0 rfl rfl hl.1 rfl (Nat.le_of_ble_eq_true rfl) dX6_free_10 ⟨Nat.zero_le _, Nat.zero_le _⟩ rfl (fun H locs hw => ?_)
        refine lv_aload_n hx hb dX6_free_13 rfl (lv_at hl 0 rfl) ?_
        refine lv_iload_n hx hb dX6_free_14 rfl (lv_at hl 2 rfl) ?_
        refine lv_aload_n hx hb dX6_free_15 rfl (lv_at hl 0 rfl) ?_
        refine lv_iload_n hx hb dX6_free_16 rfl (lv_at hl 1 rfl) ?_
        refine lv_iconst (v := 0) hx hb dX6_free_17 (by decide) ?_
        obtain ⟨r2, hr2, hf⟩ := bndS hf
        refine q_callV (rest := [.int x2, .ref (ad 0), .int r1]) (st1 := [.int r2, .int x2, .ref (ad 0), .int r1]) [.int x1, .int 0] ⟨hx, hb, hml, hown, hts⟩ (c_X6_of hr2) (cwV 2 hts gX6_free_X6_of rfl rfl rfl (by decide +kernel) ⟨Nat.le_of_ble_eq_true rfl, Nat.le_of_ble_eq_true rfl⟩) hw ma_0 rfl rfl hl.1 rfl (Nat.le_of_ble_eq_true rfl) dX6_free_18 ⟨Nat.zero_le _, Nat.zero_le _⟩ rfl (fun H locs hw => ?_)
        refine lv_aload_n hx hb dX6_free_21 rfl (lv_at hl 0 rfl) ?_
        refine q_get hx hb hts hiX6 hown hw 0 ma_0 rfl 1 (by decide) (hts (.fieldLink RX6 7 "LaceRanksModel" "s" "[I") (by decide +kernel)) rfl dX6_free_22 ?_
        refine lv_iconst (v := 0) hx hb dX6_free_25 (by decide) ?_
        obtain ⟨hg, hf⟩ := gdE hf
        obtain ⟨v3, hv3, hf⟩ := nmE hf
        refine q_iald hx hb hw 1 ma_1 (inb_in hg) dX6_free_26 ?_
        refine q_is hv3 ?_
        refine lv_iload_n hx hb dX6_free_27 rfl (lv_at hl 3 rfl) ?_
        refine lv_iadd hx hb dX6_free_28 ?_
        obtain ⟨r4, hr4, hf⟩ := bndS hf
        refine q_callV (rest := [.int r1]) (st1 := [.int r4, .int r1]) [.int x2, .int r2, .int (v3 + x3)] ⟨hx, hb, hml, hown, hts⟩ (c_X6_allowed hr4) (cwV 3 hts gX6_free_X6_allowed rfl rfl rfl (by decide +kernel) ⟨Nat.le_of_ble_eq_true rfl, Nat.le_of_ble_eq_true rfl⟩) hw ma_0 rfl rfl hl.1 rfl (Nat.le_of_ble_eq_true rfl) dX6_free_29 ⟨Nat.zero_le _, Nat.zero_le _⟩ rfl (fun H locs hw => ?_)
        refine lv_icmp_gt (tgt := 37) hx hb dX6_free_32 (by decide) (fun hc => ?_) (fun hc => ?_)
        · have hf := iteT hf hc
          obtain ⟨v5, hv5, hf⟩ := nmE hf
          refine lv_iinc (v := v5) (lv' := [(3, .int v5), (0, .ref (ad 0)), (1, .int x1), (2, .int x2)]) hx hb dX6_free_37 hl (k := 3) rfl (by rw [hv5]; rfl) (by decide) rfl (fun ls hl => ?_)
          refine lv_goto (tgt := 2) hx hb dX6_free_40 (by decide) ?_
          exact ih2 x1 x2 v5 H locs ls hf hw (lv_sub hl [1, 2, 3, 0] rfl)
        · have hf := iteF hf hc
          refine lv_iload_n hx hb dX6_free_35 rfl (lv_at hl 3 rfl) ?_
          cases hf
          exact q_iret hx hb hr hlocks hw dX6_free_36
  refine lv_iconst (v := 0) hx hb dX6_free_0 (by decide) ?_
  refine lv_istore_n (lv' := [(3, .int 0), (0, .ref (ad 0)), (1, .int a1), (2, .int a2)]) hx hb dX6_free_1 rfl hl (by decide) rfl (fun ls hl => ?_)
  exact L2 fuelN a1 a2 0 H locs ls hf hw (lv_sub hl [1, 2, 3, 0] rfl)

def f_X6_freeIn_b21    (M : MS) (x1 : Int32) (x2 : Int32) (y0 : Int32) : Option (Int32 × MS) := bnd2 (f_X6_holds M y0) (fun r1 M2 => (if r1 = 0 then some (0, M2) else bnd (f_X6_free M2 x1 x2) (fun r3 => some (r3, M2))))
def f_X6_freeIn_b20    (M : MS) (x1 : Int32) (x2 : Int32) : Option (Int32 × MS) := f_X6_freeIn_b21 M x1 x2 1
def f_X6_freeIn (M : MS)  (a1 : Int32) (a2 : Int32) : Option (Int32 × MS) := bnd (f_X6_isGuest M a1) (fun r1 => (if r1 = 0 then f_X6_freeIn_b20 M a1 a2 else bnd (f_X6_isGate a2) (fun r2 => (if r2 = 0 then f_X6_freeIn_b20 M a1 a2 else f_X6_freeIn_b21 M a1 a2 0))))
set_option maxHeartbeats 4000000 in
set_option maxRecDepth 100000 in
theorem c_X6_freeIn {l : Launch} {D : va_G} {cI cR : ClassId} {ad : Nat → Nat} {A : Nat → Prop} {M : MS} {M' : MS} {a1 : Int32} {a2 : Int32} {r : Int32}  (hf : f_X6_freeIn M a1 a2 = some (r, M')) : MC l yX6_freeIn wsX6_freeIn 3 67 D cI cR A [.ref (ad 0), .int a1, .int a2] (mws cI ad M) (some (.int r)) (mws cI ad M') := by
  refine Met.ofW (cc := cX6_freeIn) (maxL := 3) (ret := (some .int)) (by decide) rfl ?_
  intro p e s m args below meth c s₁ B hml hv
  obtain ⟨rfl, hw⟩ := q_start hv
  have hx := B.exec
  have hb := B.bytes
  have hr := B.returns
  have hts := atoms_spec (ws := wsX6_freeIn) B.pre
  have hown : s.vm.findClass RX6 = some m.cls := findClass_of_methodNamed B.named
  have hlocks := B.notSynchronized
  have hl := lv_entry ([.ref (ad 0), .int a1, .int a2]) (n := 3) (Nat.le_of_ble_eq_true rfl)
  rw [lg_entry_eq]
  generalize (lg_sl ([.ref (ad 0), .int a1, .int a2]) ++ List.replicate (3 - (lg_sl ([.ref (ad 0), .int a1, .int a2])).length) Slot.unset).toArray = ls at hl ⊢
  have hl : lv_has ls 3 [(0, .ref (ad 0)), (1, .int a1), (2, .int a2)] := hl
  unfold f_X6_freeIn at hf
  obtain ⟨H, eH⟩ : ∃ H, H = s.heap := ⟨_, rfl⟩
  obtain ⟨locs, eL⟩ : ∃ L : List Loc, L = [] := ⟨_, rfl⟩
  rw [← eH, ← eL] at hw ⊢
  clear eH eL
  have B21 : ∀ (M : MS) (x1 : Int32) (x2 : Int32) (y0 : Int32) (H : Heap) (locs : List Loc) (ls : Array Slot), f_X6_freeIn_b21 M x1 x2 y0 = some (r, M') → WH D cI cR A (mws cI ad M) s H locs → lv_has ls 3 [(0, .ref (ad 0)), (1, .int x1), (2, .int x2)] → W p l e (headSpec wsX6_freeIn ({ frames := 3, cells := 0, slots := 0, locals := 67 })).room s m ([.ref (ad 0), .int a1, .int a2] : List Value).toArray below meth c H locs 0 0 (MQ below (QV (some (.int r)) D A (mws cI ad M')) (([.ref (ad 0), .int a1, .int a2] : List Value)).toArray s 0 0 A) (F0 m 21 ls [.int y0, .ref (ad 0)]) := by
    intro M x1 x2 y0 H locs ls hf hw hl
    unfold f_X6_freeIn_b21 at hf
    obtain ⟨r1, M2, hr2, hf⟩ := bnd2S hf
    refine q_callV (rest := []) (st1 := [.int r1]) [.int y0] ⟨hx, hb, hml, hown, hts⟩ (c_X6_holds hr2) (cwV 1 hts gX6_freeIn_X6_holds rfl rfl rfl (by decide +kernel) ⟨Nat.le_of_ble_eq_true rfl, Nat.le_of_ble_eq_true rfl⟩) hw ma_0 rfl rfl hl.1 rfl (Nat.le_of_ble_eq_true rfl) dX6_freeIn_21 ⟨Nat.zero_le _, Nat.zero_le _⟩ rfl (fun H locs hw => ?_)
    refine lv_if_eq (tgt := 36) hx hb dX6_freeIn_24 (by decide) (fun hc => ?_) (fun hc => ?_)
    · have hf := iteT hf hc
      refine lv_iconst (v := 0) hx hb dX6_freeIn_36 (by decide) ?_
      cases hf
      exact q_iret hx hb hr hlocks hw dX6_freeIn_37
    · have hf := iteF hf hc
      refine lv_aload_n hx hb dX6_freeIn_27 rfl (lv_at hl 0 rfl) ?_
      refine lv_iload_n hx hb dX6_freeIn_28 rfl (lv_at hl 1 rfl) ?_
      refine lv_iload_n hx hb dX6_freeIn_29 rfl (lv_at hl 2 rfl) ?_
      obtain ⟨r3, hr3, hf⟩ := bndS hf
      refine q_callV (rest := []) (st1 := [.int r3]) [.int x1, .int x2] ⟨hx, hb, hml, hown, hts⟩ (c_X6_free hr3) (cwV 2 hts gX6_freeIn_X6_free rfl rfl rfl (by decide +kernel) ⟨Nat.le_of_ble_eq_true rfl, Nat.le_of_ble_eq_true rfl⟩) hw ma_0 rfl rfl hl.1 rfl (Nat.le_of_ble_eq_true rfl) dX6_freeIn_30 ⟨Nat.zero_le _, Nat.zero_le _⟩ rfl (fun H locs hw => ?_)
      refine lv_goto (tgt := 37) hx hb dX6_freeIn_33 (by decide) ?_
      cases hf
      exact q_iret hx hb hr hlocks hw dX6_freeIn_37
  have B20 : ∀ (M : MS) (x1 : Int32) (x2 : Int32) (H : Heap) (locs : List Loc) (ls : Array Slot), f_X6_freeIn_b20 M x1 x2 = some (r, M') → WH D cI cR A (mws cI ad M) s H locs → lv_has ls 3 [(0, .ref (ad 0)), (1, .int x1), (2, .int x2)] → W p l e (headSpec wsX6_freeIn ({ frames := 3, cells := 0, slots := 0, locals := 67 })).room s m ([.ref (ad 0), .int a1, .int a2] : List Value).toArray below meth c H locs 0 0 (MQ below (QV (some (.int r)) D A (mws cI ad M')) (([.ref (ad 0), .int a1, .int a2] : List Value)).toArray s 0 0 A) (F0 m 20 ls [.ref (ad 0)]) := by
    intro M x1 x2 H locs ls hf hw hl
    unfold f_X6_freeIn_b20 at hf
    refine lv_iconst (v := 1) hx hb dX6_freeIn_20 (by decide) ?_
    exact B21 M x1 x2 1 H locs ls hf hw (lv_sub hl [0, 1, 2] rfl)
  refine lv_aload_n hx hb dX6_freeIn_0 rfl (lv_at hl 0 rfl) ?_
  refine lv_aload_n hx hb dX6_freeIn_1 rfl (lv_at hl 0 rfl) ?_
  refine lv_iload_n hx hb dX6_freeIn_2 rfl (lv_at hl 1 rfl) ?_
  obtain ⟨r1, hr1, hf⟩ := bndS hf
  refine q_callV (rest := [.ref (ad 0)]) (st1 := [.int r1, .ref (ad 0)]) [.int a1] ⟨hx, hb, hml, hown, hts⟩ (c_X6_isGuest hr1) (cwV 1 hts gX6_freeIn_X6_isGuest rfl rfl rfl (by decide +kernel) ⟨Nat.le_of_ble_eq_true rfl, Nat.le_of_ble_eq_true rfl⟩) hw ma_0 rfl rfl hl.1 rfl (Nat.le_of_ble_eq_true rfl) dX6_freeIn_3 ⟨Nat.zero_le _, Nat.zero_le _⟩ rfl (fun H locs hw => ?_)
  refine lv_if_eq (tgt := 20) hx hb dX6_freeIn_6 (by decide) (fun hc => ?_) (fun hc => ?_)
  · have hf := iteT hf hc
    exact B20 M a1 a2 H locs ls hf hw (lv_sub hl [0, 1, 2] rfl)
  · have hf := iteF hf hc
    refine lv_iload_n hx hb dX6_freeIn_9 rfl (lv_at hl 2 rfl) ?_
    obtain ⟨r2, hr2, hf⟩ := bndS hf
    refine q_callS (rest := [.ref (ad 0)]) (st1 := [.int r2, .ref (ad 0)]) [.int a2] ⟨hx, hb, hml, hown, hts⟩ (c_X6_isGate hr2) (va_cwS 1 hts gX6_freeIn_X6_isGate rfl rfl rfl (by decide +kernel) ⟨Nat.le_of_ble_eq_true rfl, Nat.le_of_ble_eq_true rfl⟩) hw rfl hl.1 rfl (Nat.le_of_ble_eq_true rfl) dX6_freeIn_10 ⟨Nat.zero_le _, Nat.zero_le _⟩ rfl (fun H locs hw => ?_)
    refine lv_if_eq (tgt := 20) hx hb dX6_freeIn_13 (by decide) (fun hc => ?_) (fun hc => ?_)
    · have hf := iteT hf hc
      exact B20 M a1 a2 H locs ls hf hw (lv_sub hl [0, 1, 2] rfl)
    · have hf := iteF hf hc
      refine lv_iconst (v := 0) hx hb dX6_freeIn_16 (by decide) ?_
      refine lv_goto (tgt := 21) hx hb dX6_freeIn_17 (by decide) ?_
      exact B21 M a1 a2 0 H locs ls hf hw (lv_sub hl [0, 1, 2] rfl)

def f_X6_decent_b45 (k4 : Int32 → Int32 → Option UInt64) (M : MS)  (x2 : Int32) (y0 : Int32) (y1 : Int32) : Option UInt64 := nm (x2 + 1) (fun v1 => k4 (y1 + y0) v1)
def f_X6_decent_l4  (M : MS)  : Nat → Int32 → Int32 → Option UInt64
  | 0, _, _ => none
  | n4 + 1, x1, x2 => gd (inb 1 952) (nm (M.1 0 (1 : Int32).toNatClampNeg) (fun v1 => (if v1 ≤ x2 then gd (inb 1 952) (nm (M.1 0 (1 : Int32).toNatClampNeg) (fun v2 => (if v2 = 0 then some FP.dconst1 else gd (inb 1 952) (nm (M.1 0 (1 : Int32).toNatClampNeg) (fun v3 => gd (n64b (FP.ddiv (FP.i2d x1) (FP.i2d v3))) (some (FP.ddiv (FP.i2d x1) (FP.i2d v3)))))))) else bnd (f_X6_worn M x2) (fun r4 => bnd (f_X6_of M x2 0) (fun r5 => gd (inb 0 952) (nm (M.1 0 (0 : Int32).toNatClampNeg) (fun v6 => bnd (f_X6_allowed M 0 r5 v6) (fun r7 => (if r7 < r4 then f_X6_decent_b45 (f_X6_decent_l4 M n4) M x2 0 x1 else f_X6_decent_b45 (f_X6_decent_l4 M n4) M x2 1 x1)))))))))
def f_X6_decent (M : MS)   : Option UInt64 := f_X6_decent_l4 M fuelN 0 0
set_option maxHeartbeats 4000000 in
set_option maxRecDepth 100000 in
theorem c_X6_decent {l : Launch} {D : va_G} {cI cR : ClassId} {ad : Nat → Nat} {A : Nat → Prop} {M : MS}   {r : UInt64}  (hf : f_X6_decent M = some r) : MC l yX6_decent wsX6_decent 2 44 D cI cR A [.ref (ad 0)] (mws cI ad M) (some (.double r)) (mws cI ad M) := by
  refine Met.ofW (cc := cX6_decent) (maxL := 3) (ret := (some .double)) (by decide) rfl ?_
  intro p e s m args below meth c s₁ B hml hv
  obtain ⟨rfl, hw⟩ := q_start hv
  have hx := B.exec
  have hb := B.bytes
  have hr := B.returns
  have hts := atoms_spec (ws := wsX6_decent) B.pre
  have hown : s.vm.findClass RX6 = some m.cls := findClass_of_methodNamed B.named
  have hlocks := B.notSynchronized
  have hiX6 : ∀ w ∈ wsX60, w ∈ wsX6_decent := by decide +kernel
  have hl := lv_entry ([.ref (ad 0)]) (n := 3) (Nat.le_of_ble_eq_true rfl)
  rw [lg_entry_eq]
  generalize (lg_sl ([.ref (ad 0)]) ++ List.replicate (3 - (lg_sl ([.ref (ad 0)])).length) Slot.unset).toArray = ls at hl ⊢
  have hl : lv_has ls 3 [(0, .ref (ad 0))] := hl
  unfold f_X6_decent at hf
  obtain ⟨H, eH⟩ : ∃ H, H = s.heap := ⟨_, rfl⟩
  obtain ⟨locs, eL⟩ : ∃ L : List Loc, L = [] := ⟨_, rfl⟩
  rw [← eH, ← eL] at hw ⊢
  clear eH eL
  have L4 : ∀ (n4 : Nat) (x1 : Int32) (x2 : Int32) (H : Heap) (locs : List Loc) (ls : Array Slot), f_X6_decent_l4 M n4 x1 x2 = some r → WH D cI cR A (mws cI ad M) s H locs → lv_has ls 3 [(0, .ref (ad 0)), (1, .int x1), (2, .int x2)] → W p l e (headSpec wsX6_decent ({ frames := 2, cells := 0, slots := 0, locals := 44 })).room s m ([.ref (ad 0)] : List Value).toArray below meth c H locs 0 0 (MQ below (QV (some (.double r)) D A (mws cI ad M)) (([.ref (ad 0)] : List Value)).toArray s 0 0 A) (F0 m 4 ls []) := by
    intro n4
    induction n4 with
    | zero => intro x1 x2 H locs ls hf; cases hf
    | succ n4 ih =>
      have ih4 := ih
      have B45 : ∀ (x2 : Int32) (y0 : Int32) (y1 : Int32) (H : Heap) (locs : List Loc) (ls : Array Slot), f_X6_decent_b45 (f_X6_decent_l4 M n4) M x2 y0 y1 = some r → WH D cI cR A (mws cI ad M) s H locs → lv_has ls 3 [(0, .ref (ad 0)), (2, .int x2)] → W p l e (headSpec wsX6_decent ({ frames := 2, cells := 0, slots := 0, locals := 44 })).room s m ([.ref (ad 0)] : List Value).toArray below meth c H locs 0 0 (MQ below (QV (some (.double r)) D A (mws cI ad M)) (([.ref (ad 0)] : List Value)).toArray s 0 0 A) (F0 m 45 ls [.int y0, .int y1]) := by
        intro x2 y0 y1 H locs ls hf hw hl
        unfold f_X6_decent_b45 at hf
        refine lv_iadd hx hb dX6_decent_45 ?_
        refine lv_istore_n (lv' := [(1, .int (y1 + y0)), (0, .ref (ad 0)), (2, .int x2)]) hx hb dX6_decent_46 rfl hl (by decide) rfl (fun ls hl => ?_)
        obtain ⟨v1, hv1, hf⟩ := nmE hf
        refine lv_iinc (v := v1) (lv' := [(2, .int v1), (1, .int (y1 + y0)), (0, .ref (ad 0))]) hx hb dX6_decent_47 hl (k := 2) rfl (by rw [hv1]; rfl) (by decide) rfl (fun ls hl => ?_)
        refine lv_goto (tgt := 4) hx hb dX6_decent_50 (by decide) ?_
        exact ih4 (y1 + y0) v1 H locs ls hf hw (lv_sub hl [2, 1, 0] rfl)
      intro x1 x2 H locs ls hf hw hl
      simp only [f_X6_decent_l4] at hf
      refine lv_iload_n hx hb dX6_decent_4 rfl (lv_at hl 2 rfl) ?_
      refine lv_aload_n hx hb dX6_decent_5 rfl (lv_at hl 0 rfl) ?_
      refine q_get hx hb hts hiX6 hown hw 0 ma_0 rfl 1 (by decide) (hts (.fieldLink RX6 7 "LaceRanksModel" "s" "[I") (by decide +kernel)) rfl dX6_decent_6 ?_
      refine lv_iconst (v := 1) hx hb dX6_decent_9 (by decide) ?_
      obtain ⟨hg, hf⟩ := gdE hf
      obtain ⟨v1, hv1, hf⟩ := nmE hf
      refine q_iald hx hb hw 1 ma_1 (inb_in hg) dX6_decent_10 ?_
      refine q_is hv1 ?_
      refine lv_icmp_ge (tgt := 53) hx hb dX6_decent_11 (by decide) (fun hc => ?_) (fun hc => ?_)
      · have hf := iteT hf hc
        refine lv_aload_n hx hb dX6_decent_53 rfl (lv_at hl 0 rfl) ?_
        refine q_get hx hb hts hiX6 hown hw 0 ma_0 rfl 1 (by decide) (hts (.fieldLink RX6 7 "LaceRanksModel" "s" "[I") (by decide +kernel)) rfl dX6_decent_54 ?_
        refine lv_iconst (v := 1) hx hb dX6_decent_57 (by decide) ?_
        obtain ⟨hg, hf⟩ := gdE hf
        obtain ⟨v2, hv2, hf⟩ := nmE hf
        refine q_iald hx hb hw 1 ma_1 (inb_in hg) dX6_decent_58 ?_
        refine q_is hv2 ?_
        refine lv_if_ne (tgt := 66) hx hb dX6_decent_59 (by decide) (fun hc => ?_) (fun hc => ?_)
        · have hf := iteF hf hc
          refine lv_iload_n hx hb dX6_decent_66 rfl (lv_at hl 1 rfl) ?_
          refine lv_i2d hx hb dX6_decent_67 ?_
          refine lv_aload_n hx hb dX6_decent_68 rfl (lv_at hl 0 rfl) ?_
          refine q_get hx hb hts hiX6 hown hw 0 ma_0 rfl 1 (by decide) (hts (.fieldLink RX6 7 "LaceRanksModel" "s" "[I") (by decide +kernel)) rfl dX6_decent_69 ?_
          refine lv_iconst (v := 1) hx hb dX6_decent_72 (by decide) ?_
          obtain ⟨hg, hf⟩ := gdE hf
          obtain ⟨v3, hv3, hf⟩ := nmE hf
          refine q_iald hx hb hw 1 ma_1 (inb_in hg) dX6_decent_73 ?_
          refine q_is hv3 ?_
          refine lv_i2d hx hb dX6_decent_74 ?_
          obtain ⟨hg, hf⟩ := gdE hf
          refine lv_ddiv hx hb dX6_decent_75 (n64b_ok hg) ?_
          cases hf
          exact q_dret hx hb hr hlocks hw dX6_decent_76
        · have hf := iteT hf hc
          refine lv_dconst1 hx hb dX6_decent_62 ?_
          refine lv_goto (tgt := 76) hx hb dX6_decent_63 (by decide) ?_
          cases hf
          exact q_dret hx hb hr hlocks hw dX6_decent_76
      · have hf := iteF hf hc
        refine lv_iload_n hx hb dX6_decent_14 rfl (lv_at hl 1 rfl) ?_
        refine lv_aload_n hx hb dX6_decent_15 rfl (lv_at hl 0 rfl) ?_
        refine lv_iload_n hx hb dX6_decent_16 rfl (lv_at hl 2 rfl) ?_
        obtain ⟨r4, hr4, hf⟩ := bndS hf
        refine q_callV (rest := [.int x1]) (st1 := [.int r4, .int x1]) [.int x2] ⟨hx, hb, hml, hown, hts⟩ (c_X6_worn hr4) (cwV 1 hts gX6_decent_X6_worn rfl rfl rfl (by decide +kernel) ⟨Nat.le_of_ble_eq_true rfl, Nat.le_of_ble_eq_true rfl⟩) hw ma_0 rfl rfl hl.1 rfl (Nat.le_of_ble_eq_true rfl) dX6_decent_17 ⟨Nat.zero_le _, Nat.zero_le _⟩ rfl (fun H locs hw => ?_)
        refine lv_aload_n hx hb dX6_decent_20 rfl (lv_at hl 0 rfl) ?_
        refine lv_iconst (v := 0) hx hb dX6_decent_21 (by decide) ?_
        refine lv_aload_n hx hb dX6_decent_22 rfl (lv_at hl 0 rfl) ?_
        refine lv_iload_n hx hb dX6_decent_23 rfl (lv_at hl 2 rfl) ?_
        refine lv_iconst (v := 0) hx hb dX6_decent_24 (by decide) ?_
        obtain ⟨r5, hr5, hf⟩ := bndS hf
        refine q_callV (rest := [.int 0, .ref (ad 0), .int r4, .int x1]) (st1 := [.int r5, .int 0, .ref (ad 0), .int r4, .int x1]) [.int x2, .int 0] ⟨hx, hb, hml, hown, hts⟩ (c_X6_of hr5) (cwV 2 hts gX6_decent_X6_of rfl rfl rfl (by decide +kernel) ⟨Nat.le_of_ble_eq_true rfl, Nat.le_of_ble_eq_true rfl⟩) hw ma_0 rfl rfl hl.1 rfl (Nat.le_of_ble_eq_true rfl) dX6_decent_25 ⟨Nat.zero_le _, Nat.zero_le _⟩ rfl (fun H locs hw => ?_)
        refine lv_aload_n hx hb dX6_decent_28 rfl (lv_at hl 0 rfl) ?_
        refine q_get hx hb hts hiX6 hown hw 0 ma_0 rfl 1 (by decide) (hts (.fieldLink RX6 7 "LaceRanksModel" "s" "[I") (by decide +kernel)) rfl dX6_decent_29 ?_
        refine lv_iconst (v := 0) hx hb dX6_decent_32 (by decide) ?_
        obtain ⟨hg, hf⟩ := gdE hf
        obtain ⟨v6, hv6, hf⟩ := nmE hf
        refine q_iald hx hb hw 1 ma_1 (inb_in hg) dX6_decent_33 ?_
        refine q_is hv6 ?_
        obtain ⟨r7, hr7, hf⟩ := bndS hf
        refine q_callV (rest := [.int r4, .int x1]) (st1 := [.int r7, .int r4, .int x1]) [.int 0, .int r5, .int v6] ⟨hx, hb, hml, hown, hts⟩ (c_X6_allowed hr7) (cwV 3 hts gX6_decent_X6_allowed rfl rfl rfl (by decide +kernel) ⟨Nat.le_of_ble_eq_true rfl, Nat.le_of_ble_eq_true rfl⟩) hw ma_0 rfl rfl hl.1 rfl (Nat.le_of_ble_eq_true rfl) dX6_decent_34 ⟨Nat.zero_le _, Nat.zero_le _⟩ rfl (fun H locs hw => ?_)
        refine lv_icmp_gt (tgt := 44) hx hb dX6_decent_37 (by decide) (fun hc => ?_) (fun hc => ?_)
        · have hf := iteT hf hc
          refine lv_iconst (v := 0) hx hb dX6_decent_44 (by decide) ?_
          exact B45 x2 0 x1 H locs ls hf hw (lv_sub hl [0, 2] rfl)
        · have hf := iteF hf hc
          refine lv_iconst (v := 1) hx hb dX6_decent_40 (by decide) ?_
          refine lv_goto (tgt := 45) hx hb dX6_decent_41 (by decide) ?_
          exact B45 x2 1 x1 H locs ls hf hw (lv_sub hl [0, 2] rfl)
  refine lv_iconst (v := 0) hx hb dX6_decent_0 (by decide) ?_
  refine lv_istore_n (lv' := [(1, .int 0), (0, .ref (ad 0))]) hx hb dX6_decent_1 rfl hl (by decide) rfl (fun ls hl => ?_)
  refine lv_iconst (v := 0) hx hb dX6_decent_2 (by decide) ?_
  refine lv_istore_n (lv' := [(2, .int 0), (1, .int 0), (0, .ref (ad 0))]) hx hb dX6_decent_3 rfl hl (by decide) rfl (fun ls hl => ?_)
  exact L4 fuelN 0 0 H locs ls hf hw (lv_sub hl [2, 1, 0] rfl)

def f_X6_decentShare (M : MS)   : Option (UInt64 × MS) := nm (upMS M 3 0 0) (fun M1 => bnd (f_X6_decent M1) (fun r2 => some (r2, M1)))
set_option maxHeartbeats 4000000 in
set_option maxRecDepth 100000 in
theorem c_X6_decentShare {l : Launch} {D : va_G} {cI cR : ClassId} {ad : Nat → Nat} {A : Nat → Prop} {M : MS} {M' : MS}  {r : UInt64}  (hf : f_X6_decentShare M = some (r, M')) : MC l yX6_decentShare wsX6_decentShare 3 66 D cI cR A [.ref (ad 0)] (mws cI ad M) (some (.double r)) (mws cI ad M') := by
  refine Met.ofW (cc := cX6_decentShare) (maxL := 1) (ret := (some .double)) (by decide) rfl ?_
  intro p e s m args below meth c s₁ B hml hv
  obtain ⟨rfl, hw⟩ := q_start hv
  have hx := B.exec
  have hb := B.bytes
  have hr := B.returns
  have hts := atoms_spec (ws := wsX6_decentShare) B.pre
  have hown : s.vm.findClass RX6 = some m.cls := findClass_of_methodNamed B.named
  have hlocks := B.notSynchronized
  have hiX6 : ∀ w ∈ wsX60, w ∈ wsX6_decentShare := by decide +kernel
  have hl := lv_entry ([.ref (ad 0)]) (n := 1) (Nat.le_of_ble_eq_true rfl)
  rw [lg_entry_eq]
  generalize (lg_sl ([.ref (ad 0)]) ++ List.replicate (1 - (lg_sl ([.ref (ad 0)])).length) Slot.unset).toArray = ls at hl ⊢
  have hl : lv_has ls 1 [(0, .ref (ad 0))] := hl
  unfold f_X6_decentShare at hf
  obtain ⟨H, eH⟩ : ∃ H, H = s.heap := ⟨_, rfl⟩
  obtain ⟨locs, eL⟩ : ∃ L : List Loc, L = [] := ⟨_, rfl⟩
  rw [← eH, ← eL] at hw ⊢
  clear eH eL
  refine lv_aload_n hx hb dX6_decentShare_0 rfl (lv_at hl 0 rfl) ?_
  refine lv_iconst (v := 0) hx hb dX6_decentShare_1 (by decide) ?_
  obtain ⟨M1, hM1, hf⟩ := nmE hf
  refine q_put (ty := .int) hx hb hts hiX6 tyX6 tyX6_ok nmX6 hown hw 0 ma_0 rfl 0 (by decide) (hts (.fieldLink RX6 19 "LaceRanksModel" "thrown" "I") (by decide +kernel)) rfl (by decide +kernel) rfl rfl (Nat.le_of_ble_eq_true rfl) dX6_decentShare_2 (ms_0_0.trans (congrArg (fun z => (mws cI ad z)) hM1.symm)) (fun H locs hw => ?_)
  refine lv_aload_n hx hb dX6_decentShare_5 rfl (lv_at hl 0 rfl) ?_
  obtain ⟨r2, hr2, hf⟩ := bndS hf
  refine q_callV (rest := []) (st1 := [.double r2]) [] ⟨hx, hb, hml, hown, hts⟩ (c_X6_decent hr2) (cwV 0 hts gX6_decentShare_X6_decent rfl rfl rfl (by decide +kernel) ⟨Nat.le_of_ble_eq_true rfl, Nat.le_of_ble_eq_true rfl⟩) hw ma_0 rfl rfl hl.1 rfl (Nat.le_of_ble_eq_true rfl) dX6_decentShare_6 ⟨Nat.zero_le _, Nat.zero_le _⟩ rfl (fun H locs hw => ?_)
  cases hf
  exact q_dret hx hb hr hlocks hw dX6_decentShare_9

def f_X6_mix (M : MS)  (a1 : Int64) : Option MS := nm (upH M (((31 : Int64) * M.2) + a1)) (fun M1 => some M1)
set_option maxHeartbeats 4000000 in
set_option maxRecDepth 100000 in
theorem c_X6_mix {l : Launch} {D : va_G} {cI cR : ClassId} {ad : Nat → Nat} {A : Nat → Prop} {M : MS} {M' : MS} {a1 : Int64}   (hf : f_X6_mix M a1 = some M') : MC l yX6_mix wsX6_mix 0 0 D cI cR A [.ref (ad 0), .long a1] (mws cI ad M) none (mws cI ad M') := by
  refine Met.ofW (cc := cX6_mix) (maxL := 3) (ret := none) (by decide) rfl ?_
  intro p e s m args below meth c s₁ B hml hv
  obtain ⟨rfl, hw⟩ := q_start hv
  have hx := B.exec
  have hb := B.bytes
  have hr := B.returns
  have hts := atoms_spec (ws := wsX6_mix) B.pre
  have hown : s.vm.findClass RX6 = some m.cls := findClass_of_methodNamed B.named
  have hlocks := B.notSynchronized
  have hiX6 : ∀ w ∈ wsX60, w ∈ wsX6_mix := by decide +kernel
  have hl := lv_entry ([.ref (ad 0), .long a1]) (n := 3) (Nat.le_of_ble_eq_true rfl)
  rw [lg_entry_eq]
  generalize (lg_sl ([.ref (ad 0), .long a1]) ++ List.replicate (3 - (lg_sl ([.ref (ad 0), .long a1])).length) Slot.unset).toArray = ls at hl ⊢
  have hl : lv_has ls 3 [(0, .ref (ad 0)), (1, .long a1)] := hl
  unfold f_X6_mix at hf
  obtain ⟨H, eH⟩ : ∃ H, H = s.heap := ⟨_, rfl⟩
  obtain ⟨locs, eL⟩ : ∃ L : List Loc, L = [] := ⟨_, rfl⟩
  rw [← eH, ← eL] at hw ⊢
  clear eH eL
  refine lv_aload_n hx hb dX6_mix_0 rfl (lv_at hl 0 rfl) ?_
  refine lv_ldc2 (v := 31) hx hb hown (hts (.constantLong RX6 193 31) (by decide +kernel)) dX6_mix_1 ?_
  refine lv_aload_n hx hb dX6_mix_4 rfl (lv_at hl 0 rfl) ?_
  refine q_get hx hb hts hiX6 hown hw 0 ma_0 rfl 11 (by decide) (hts (.fieldLink RX6 195 "LaceRanksModel" "hash" "J") (by decide +kernel)) rfl dX6_mix_5 ?_
  refine lv_lmul hx hb dX6_mix_8 ?_
  refine lv_lload_n hx hb dX6_mix_9 rfl (lv_at hl 1 rfl) ?_
  refine lv_ladd hx hb dX6_mix_10 ?_
  obtain ⟨M1, hM1, hf⟩ := nmE hf
  refine q_put (ty := .long) hx hb hts hiX6 tyX6 tyX6_ok nmX6 hown hw 0 ma_0 rfl 11 (by decide) (hts (.fieldLink RX6 195 "LaceRanksModel" "hash" "J") (by decide +kernel)) rfl (by decide +kernel) rfl rfl (Nat.le_of_ble_eq_true rfl) dX6_mix_11 (ms_0_h.trans (congrArg (fun z => (mws cI ad z)) hM1.symm)) (fun H locs hw => ?_)
  cases hf
  exact q_vret hx hb hr hlocks hw dX6_mix_14

def f_X6_bits_l15    : Nat → UInt64 → Int64 → Option Int64
  | 0, _, _ => none
  | n15 + 1, x2, x4 => (if 0 ≤ (Op.cmpValue (FP.dcmp x2 FP.dconst1) .g) then gd (n64b (FP.dsub x2 FP.dconst1)) (gd (n64b (FP.dmul (FP.dsub x2 FP.dconst1) 4841369599423283200)) (some ((x4 * (4503599627370496 : Int64)) + (FP.d2l (FP.dmul (FP.dsub x2 FP.dconst1) 4841369599423283200))))) else gd (n64b (FP.dmul x2 4611686018427387904)) (nm (FP.dmul x2 4611686018427387904) (fun v1 => (f_X6_bits_l15 n15) v1 (x4 - 1))))
def f_X6_bits   (a0 : UInt64) : Option Int64 := (if (Op.cmpValue (FP.dcmp a0 FP.dconst0) .l) = 0 then some 0 else nm ((1023 : Int64)) (fun v1 => f_X6_bits_l15 fuelN a0 v1))
set_option maxHeartbeats 4000000 in
set_option maxRecDepth 100000 in
theorem c_X6_bits {l : Launch} {D : va_G} {cI cR : ClassId} {A : Nat → Prop} {w : va_W}  {a0 : UInt64} {r : Int64}  (hf : f_X6_bits a0 = some r) : MC l yX6_bits wsX6_bits 0 0 D cI cR A [.double a0] w (some (.long r)) w := by
  refine Met.ofW (cc := cX6_bits) (maxL := 6) (ret := (some .long)) (by decide) rfl ?_
  intro p e s m args below meth c s₁ B hml hv
  obtain ⟨rfl, hw⟩ := q_start hv
  have hx := B.exec
  have hb := B.bytes
  have hr := B.returns
  have hts := atoms_spec (ws := wsX6_bits) B.pre
  have hown : s.vm.findClass RX6 = some m.cls := findClass_of_methodNamed B.named
  have hlocks := B.notSynchronized
  have hl := lv_entry ([.double a0]) (n := 6) (Nat.le_of_ble_eq_true rfl)
  rw [lg_entry_eq]
  generalize (lg_sl ([.double a0]) ++ List.replicate (6 - (lg_sl ([.double a0])).length) Slot.unset).toArray = ls at hl ⊢
  have hl : lv_has ls 6 [(0, .double a0)] := hl
  unfold f_X6_bits at hf
  obtain ⟨H, eH⟩ : ∃ H, H = s.heap := ⟨_, rfl⟩
  obtain ⟨locs, eL⟩ : ∃ L : List Loc, L = [] := ⟨_, rfl⟩
  rw [← eH, ← eL] at hw ⊢
  clear eH eL
  have L15 : ∀ (n15 : Nat) (x2 : UInt64) (x4 : Int64) (H : Heap) (locs : List Loc) (ls : Array Slot), f_X6_bits_l15 n15 x2 x4 = some r → WH D cI cR A w s H locs → lv_has ls 6 [(2, .double x2), (4, .long x4)] → W p l e (headSpec wsX6_bits ({ frames := 0, cells := 0, slots := 0, locals := 0 })).room s m ([.double a0] : List Value).toArray below meth c H locs 0 0 (MQ below (QV (some (.long r)) D A w) (([.double a0] : List Value)).toArray s 0 0 A) (F0 m 15 ls []) := by
    intro n15
    induction n15 with
    | zero => intro x2 x4 H locs ls hf; cases hf
    | succ n15 ih =>
      have ih15 := ih
      intro x2 x4 H locs ls hf hw hl
      simp only [f_X6_bits_l15] at hf
      refine lv_dload_n hx hb dX6_bits_15 rfl (lv_at hl 0 rfl) ?_
      refine lv_dconst1 hx hb dX6_bits_16 ?_
      refine lv_dcmp hx hb dX6_bits_17 ?_
      refine lv_if_ge (tgt := 36) hx hb dX6_bits_18 (by decide) (fun hc => ?_) (fun hc => ?_)
      · have hf := iteT hf hc
        refine lv_lload hx hb dX6_bits_36 (lv_at hl 1 rfl) ?_
        refine lv_ldc2 (v := 4503599627370496) hx hb hown (hts (.constantLong RX6 203 4503599627370496) (by decide +kernel)) dX6_bits_38 ?_
        refine lv_lmul hx hb dX6_bits_41 ?_
        refine lv_dload_n hx hb dX6_bits_42 rfl (lv_at hl 0 rfl) ?_
        refine lv_dconst1 hx hb dX6_bits_43 ?_
        obtain ⟨hg, hf⟩ := gdE hf
        refine lv_dsub hx hb dX6_bits_44 (n64b_ok hg) ?_
        refine lv_ldc2d (v := 4841369599423283200) hx hb hown (hts (.constantDouble RX6 205 4841369599423283200) (by decide +kernel)) dX6_bits_45 ?_
        obtain ⟨hg, hf⟩ := gdE hf
        refine lv_dmul hx hb dX6_bits_48 (n64b_ok hg) ?_
        refine lv_d2l hx hb dX6_bits_49 ?_
        refine lv_ladd hx hb dX6_bits_50 ?_
        cases hf
        exact q_lret hx hb hr hlocks hw dX6_bits_51
      · have hf := iteF hf hc
        refine lv_dload_n hx hb dX6_bits_21 rfl (lv_at hl 0 rfl) ?_
        refine lv_ldc2d (v := 4611686018427387904) hx hb hown (hts (.constantDouble RX6 201 4611686018427387904) (by decide +kernel)) dX6_bits_22 ?_
        obtain ⟨hg, hf⟩ := gdE hf
        refine lv_dmul hx hb dX6_bits_25 (n64b_ok hg) ?_
        obtain ⟨v1, hv1, hf⟩ := nmE hf
        refine q_isV (congrArg Value.double hv1) ?_
        refine lv_dstore_n (lv' := [(2, .double v1), (4, .long x4)]) hx hb dX6_bits_26 rfl hl (by decide) rfl (fun ls hl => ?_)
        refine lv_lload hx hb dX6_bits_27 (lv_at hl 1 rfl) ?_
        refine lv_lconst (v := 1) hx hb dX6_bits_29 (by decide) ?_
        refine lv_lsub hx hb dX6_bits_30 ?_
        refine lv_lstore (lv' := [(4, .long (x4 - 1)), (2, .double v1)]) hx hb dX6_bits_31 hl (by decide) rfl (fun ls hl => ?_)
        refine lv_goto (tgt := 15) hx hb dX6_bits_33 (by decide) ?_
        exact ih15 v1 (x4 - 1) H locs ls hf hw (lv_sub hl [1, 0] rfl)
  refine lv_dload_n hx hb dX6_bits_0 rfl (lv_at hl 0 rfl) ?_
  refine lv_dconst0 hx hb dX6_bits_1 ?_
  refine lv_dcmp hx hb dX6_bits_2 ?_
  refine lv_if_ne (tgt := 8) hx hb dX6_bits_3 (by decide) (fun hc => ?_) (fun hc => ?_)
  · have hf := iteF hf hc
    refine lv_dload_n hx hb dX6_bits_8 rfl (lv_at hl 0 rfl) ?_
    refine lv_dstore_n (lv' := [(2, .double a0), (0, .double a0)]) hx hb dX6_bits_9 rfl hl (by decide) rfl (fun ls hl => ?_)
    refine lv_ldc2 (v := 1023) hx hb hown (hts (.constantLong RX6 199 1023) (by decide +kernel)) dX6_bits_10 ?_
    obtain ⟨v1, hv1, hf⟩ := nmE hf
    refine q_isV (congrArg Value.long hv1) ?_
    refine lv_lstore (lv' := [(4, .long v1), (2, .double a0), (0, .double a0)]) hx hb dX6_bits_13 hl (by decide) rfl (fun ls hl => ?_)
    exact L15 fuelN a0 v1 H locs ls hf hw (lv_sub hl [1, 0] rfl)
  · have hf := iteT hf hc
    refine lv_lconst (v := 0) hx hb dX6_bits_6 (by decide) ?_
    cases hf
    exact q_lret hx hb hr hlocks hw dX6_bits_7

def f_X6_mixGuest_l64 (k57 : MS → Int32 → Int32 → Option MS)   : Nat → MS → Int32 → Int32 → Int32 → Option MS
  | 0, _, _, _, _ => none
  | n64 + 1, M, x1, x2, x3 => (if 4 ≤ x3 then bnd (f_X6_free M x1 x2) (fun r1 => bnd (f_X6_mix M r1.toInt64) (fun M2 => nm (x2 + 1) (fun v3 => k57 M2 x1 v3))) else bnd2 (f_X6_wouldBring M x1 x2 x3) (fun r4 M5 => bnd (f_X6_mix M5 r4.toInt64) (fun M6 => nm (x3 + 1) (fun v7 => (f_X6_mixGuest_l64 k57 n64) M6 x1 x2 v7))))
def f_X6_mixGuest_l57    : Nat → MS → Int32 → Int32 → Option MS
  | 0, _, _, _ => none
  | n57 + 1, M, x1, x2 => (if 3 ≤ x2 then some M else f_X6_mixGuest_l64 (f_X6_mixGuest_l57 n57) fuelN M x1 x2 0)
def f_X6_mixGuest_l2    : Nat → MS → Int32 → Int32 → Option MS
  | 0, _, _, _ => none
  | n2 + 1, M, x1, x2 => (if 11 ≤ x2 then bnd (f_X6_whyNoMask M x1) (fun r1 => bnd (f_X6_mix M r1.toInt64) (fun M2 => bnd (f_X6_whyNoLine M2 x1) (fun r3 => bnd (f_X6_mix M2 r3.toInt64) (fun M4 => bnd2 (f_X6_best M4 x1) (fun r5 M6 => bnd (f_X6_mix M6 r5.toInt64) (fun M7 => f_X6_mixGuest_l57 fuelN M7 x1 0)))))) else bnd (f_X6_ofGuest M x1 x2) (fun r8 => bnd (f_X6_mix M r8.toInt64) (fun M9 => nm (x2 + 1) (fun v10 => (f_X6_mixGuest_l2 n2) M9 x1 v10))))
def f_X6_mixGuest (M : MS)  (a1 : Int32) : Option MS := f_X6_mixGuest_l2 fuelN M a1 0
set_option maxHeartbeats 4000000 in
set_option maxRecDepth 100000 in
theorem c_X6_mixGuest {l : Launch} {D : va_G} {cI cR : ClassId} {ad : Nat → Nat} {A : Nat → Prop} {M : MS} {M' : MS} {a1 : Int32}   (hf : f_X6_mixGuest M a1 = some M') : MC l yX6_mixGuest wsX6_mixGuest 5 123 D cI cR A [.ref (ad 0), .int a1] (mws cI ad M) none (mws cI ad M') := by
  refine Met.ofW (cc := cX6_mixGuest) (maxL := 4) (ret := none) (by decide) rfl ?_
  intro p e s m args below meth c s₁ B hml hv
  obtain ⟨rfl, hw⟩ := q_start hv
  have hx := B.exec
  have hb := B.bytes
  have hr := B.returns
  have hts := atoms_spec (ws := wsX6_mixGuest) B.pre
  have hown : s.vm.findClass RX6 = some m.cls := findClass_of_methodNamed B.named
  have hlocks := B.notSynchronized
  have hl := lv_entry ([.ref (ad 0), .int a1]) (n := 4) (Nat.le_of_ble_eq_true rfl)
  rw [lg_entry_eq]
  generalize (lg_sl ([.ref (ad 0), .int a1]) ++ List.replicate (4 - (lg_sl ([.ref (ad 0), .int a1])).length) Slot.unset).toArray = ls at hl ⊢
  have hl : lv_has ls 4 [(0, .ref (ad 0)), (1, .int a1)] := hl
  unfold f_X6_mixGuest at hf
  obtain ⟨H, eH⟩ : ∃ H, H = s.heap := ⟨_, rfl⟩
  obtain ⟨locs, eL⟩ : ∃ L : List Loc, L = [] := ⟨_, rfl⟩
  rw [← eH, ← eL] at hw ⊢
  clear eH eL
  have L57 : ∀ (n57 : Nat) (M : MS) (x1 : Int32) (x2 : Int32) (H : Heap) (locs : List Loc) (ls : Array Slot), f_X6_mixGuest_l57 n57 M x1 x2 = some M' → WH D cI cR A (mws cI ad M) s H locs → lv_has ls 4 [(0, .ref (ad 0)), (1, .int x1), (2, .int x2)] → W p l e (headSpec wsX6_mixGuest ({ frames := 5, cells := 0, slots := 0, locals := 123 })).room s m ([.ref (ad 0), .int a1] : List Value).toArray below meth c H locs 0 0 (MQ below (QV none D A (mws cI ad M')) (([.ref (ad 0), .int a1] : List Value)).toArray s 0 0 A) (F0 m 57 ls []) := by
    intro n57
    induction n57 with
    | zero => intro M x1 x2 H locs ls hf; cases hf
    | succ n57 ih =>
      have ih57 := ih
      have L64 : ∀ (n64 : Nat) (M : MS) (x1 : Int32) (x2 : Int32) (x3 : Int32) (H : Heap) (locs : List Loc) (ls : Array Slot), f_X6_mixGuest_l64 (f_X6_mixGuest_l57 n57) n64 M x1 x2 x3 = some M' → WH D cI cR A (mws cI ad M) s H locs → lv_has ls 4 [(0, .ref (ad 0)), (1, .int x1), (2, .int x2), (3, .int x3)] → W p l e (headSpec wsX6_mixGuest ({ frames := 5, cells := 0, slots := 0, locals := 123 })).room s m ([.ref (ad 0), .int a1] : List Value).toArray below meth c H locs 0 0 (MQ below (QV none D A (mws cI ad M')) (([.ref (ad 0), .int a1] : List Value)).toArray s 0 0 A) (F0 m 64 ls []) := by
        intro n64
        induction n64 with
        | zero => intro M x1 x2 x3 H locs ls hf; cases hf
        | succ n64 ih =>
          have ih64 := ih
          intro M x1 x2 x3 H locs ls hf hw hl
          simp only [f_X6_mixGuest_l64] at hf
          refine lv_iload_n hx hb dX6_mixGuest_64 rfl (lv_at hl 3 rfl) ?_
          refine lv_iconst (v := 4) hx hb dX6_mixGuest_65 (by decide) ?_
          refine lv_icmp_ge (tgt := 87) hx hb dX6_mixGuest_66 (by decide) (fun hc => ?_) (fun hc => ?_)
          · have hf := iteT hf hc
            refine lv_aload_n hx hb dX6_mixGuest_87 rfl (lv_at hl 0 rfl) ?_
            refine lv_aload_n hx hb dX6_mixGuest_88 rfl (lv_at hl 0 rfl) ?_
            refine lv_iload_n hx hb dX6_mixGuest_89 rfl (lv_at hl 1 rfl) ?_
            refine lv_iload_n hx hb dX6_mixGuest_90 rfl (lv_at hl 2 rfl) ?_
            obtain ⟨r1, hr1, hf⟩ := bndS hf
            refine q_callV (rest := [.ref (ad 0)]) (st1 := [.int r1, .ref (ad 0)]) [.int x1, .int x2] ⟨hx, hb, hml, hown, hts⟩ (c_X6_free hr1) (cwV 2 hts gX6_mixGuest_X6_free rfl rfl rfl (by decide +kernel) ⟨Nat.le_of_ble_eq_true rfl, Nat.le_of_ble_eq_true rfl⟩) hw ma_0 rfl rfl hl.1 rfl (Nat.le_of_ble_eq_true rfl) dX6_mixGuest_91 ⟨Nat.zero_le _, Nat.zero_le _⟩ rfl (fun H locs hw => ?_)
            refine lv_i2l hx hb dX6_mixGuest_94 rfl ?_
            obtain ⟨M2, hr2, hf⟩ := bndS hf
            refine q_callV (rest := []) (st1 := []) [.long r1.toInt64] ⟨hx, hb, hml, hown, hts⟩ (c_X6_mix hr2) (cwV 1 hts gX6_mixGuest_X6_mix rfl rfl rfl (by decide +kernel) ⟨Nat.le_of_ble_eq_true rfl, Nat.le_of_ble_eq_true rfl⟩) hw ma_0 rfl rfl hl.1 rfl (Nat.le_of_ble_eq_true rfl) dX6_mixGuest_95 ⟨Nat.zero_le _, Nat.zero_le _⟩ rfl (fun H locs hw => ?_)
            obtain ⟨v3, hv3, hf⟩ := nmE hf
            refine lv_iinc (v := v3) (lv' := [(2, .int v3), (0, .ref (ad 0)), (1, .int x1), (3, .int x3)]) hx hb dX6_mixGuest_98 hl (k := 2) rfl (by rw [hv3]; rfl) (by decide) rfl (fun ls hl => ?_)
            refine lv_goto (tgt := 57) hx hb dX6_mixGuest_101 (by decide) ?_
            exact ih57 M2 x1 v3 H locs ls hf hw (lv_sub hl [1, 2, 0] rfl)
          · have hf := iteF hf hc
            refine lv_aload_n hx hb dX6_mixGuest_69 rfl (lv_at hl 0 rfl) ?_
            refine lv_aload_n hx hb dX6_mixGuest_70 rfl (lv_at hl 0 rfl) ?_
            refine lv_iload_n hx hb dX6_mixGuest_71 rfl (lv_at hl 1 rfl) ?_
            refine lv_iload_n hx hb dX6_mixGuest_72 rfl (lv_at hl 2 rfl) ?_
            refine lv_iload_n hx hb dX6_mixGuest_73 rfl (lv_at hl 3 rfl) ?_
            obtain ⟨r4, M5, hr5, hf⟩ := bnd2S hf
            refine q_callV (rest := [.ref (ad 0)]) (st1 := [.int r4, .ref (ad 0)]) [.int x1, .int x2, .int x3] ⟨hx, hb, hml, hown, hts⟩ (c_X6_wouldBring hr5) (cwV 3 hts gX6_mixGuest_X6_wouldBring rfl rfl rfl (by decide +kernel) ⟨Nat.le_of_ble_eq_true rfl, Nat.le_of_ble_eq_true rfl⟩) hw ma_0 rfl rfl hl.1 rfl (Nat.le_of_ble_eq_true rfl) dX6_mixGuest_74 ⟨Nat.zero_le _, Nat.zero_le _⟩ rfl (fun H locs hw => ?_)
            refine lv_i2l hx hb dX6_mixGuest_77 rfl ?_
            obtain ⟨M6, hr6, hf⟩ := bndS hf
            refine q_callV (rest := []) (st1 := []) [.long r4.toInt64] ⟨hx, hb, hml, hown, hts⟩ (c_X6_mix hr6) (cwV 1 hts gX6_mixGuest_X6_mix rfl rfl rfl (by decide +kernel) ⟨Nat.le_of_ble_eq_true rfl, Nat.le_of_ble_eq_true rfl⟩) hw ma_0 rfl rfl hl.1 rfl (Nat.le_of_ble_eq_true rfl) dX6_mixGuest_78 ⟨Nat.zero_le _, Nat.zero_le _⟩ rfl (fun H locs hw => ?_)
            obtain ⟨v7, hv7, hf⟩ := nmE hf
            refine lv_iinc (v := v7) (lv' := [(3, .int v7), (0, .ref (ad 0)), (1, .int x1), (2, .int x2)]) hx hb dX6_mixGuest_81 hl (k := 3) rfl (by rw [hv7]; rfl) (by decide) rfl (fun ls hl => ?_)
            refine lv_goto (tgt := 64) hx hb dX6_mixGuest_84 (by decide) ?_
            exact ih64 M6 x1 x2 v7 H locs ls hf hw (lv_sub hl [1, 2, 3, 0] rfl)
      intro M x1 x2 H locs ls hf hw hl
      simp only [f_X6_mixGuest_l57] at hf
      refine lv_iload_n hx hb dX6_mixGuest_57 rfl (lv_at hl 2 rfl) ?_
      refine lv_iconst (v := 3) hx hb dX6_mixGuest_58 (by decide) ?_
      refine lv_icmp_ge (tgt := 104) hx hb dX6_mixGuest_59 (by decide) (fun hc => ?_) (fun hc => ?_)
      · have hf := iteT hf hc
        cases hf
        exact q_vret hx hb hr hlocks hw dX6_mixGuest_104
      · have hf := iteF hf hc
        refine lv_iconst (v := 0) hx hb dX6_mixGuest_62 (by decide) ?_
        refine lv_istore_n (lv' := [(3, .int 0), (0, .ref (ad 0)), (1, .int x1), (2, .int x2)]) hx hb dX6_mixGuest_63 rfl hl (by decide) rfl (fun ls hl => ?_)
        exact L64 fuelN M x1 x2 0 H locs ls hf hw (lv_sub hl [1, 2, 3, 0] rfl)
  have L2 : ∀ (n2 : Nat) (M : MS) (x1 : Int32) (x2 : Int32) (H : Heap) (locs : List Loc) (ls : Array Slot), f_X6_mixGuest_l2 n2 M x1 x2 = some M' → WH D cI cR A (mws cI ad M) s H locs → lv_has ls 4 [(0, .ref (ad 0)), (1, .int x1), (2, .int x2)] → W p l e (headSpec wsX6_mixGuest ({ frames := 5, cells := 0, slots := 0, locals := 123 })).room s m ([.ref (ad 0), .int a1] : List Value).toArray below meth c H locs 0 0 (MQ below (QV none D A (mws cI ad M')) (([.ref (ad 0), .int a1] : List Value)).toArray s 0 0 A) (F0 m 2 ls []) := by
    intro n2
    induction n2 with
    | zero => intro M x1 x2 H locs ls hf; cases hf
    | succ n2 ih =>
      have ih2 := ih
      intro M x1 x2 H locs ls hf hw hl
      simp only [f_X6_mixGuest_l2] at hf
      refine lv_iload_n hx hb dX6_mixGuest_2 rfl (lv_at hl 2 rfl) ?_
      refine lv_bipush (v := 11) hx hb dX6_mixGuest_3 (by decide) ?_
      refine lv_icmp_ge (tgt := 25) hx hb dX6_mixGuest_5 (by decide) (fun hc => ?_) (fun hc => ?_)
      · have hf := iteT hf hc
        refine lv_aload_n hx hb dX6_mixGuest_25 rfl (lv_at hl 0 rfl) ?_
        refine lv_aload_n hx hb dX6_mixGuest_26 rfl (lv_at hl 0 rfl) ?_
        refine lv_iload_n hx hb dX6_mixGuest_27 rfl (lv_at hl 1 rfl) ?_
        obtain ⟨r1, hr1, hf⟩ := bndS hf
        refine q_callV (rest := [.ref (ad 0)]) (st1 := [.int r1, .ref (ad 0)]) [.int x1] ⟨hx, hb, hml, hown, hts⟩ (c_X6_whyNoMask hr1) (cwV 1 hts gX6_mixGuest_X6_whyNoMask rfl rfl rfl (by decide +kernel) ⟨Nat.le_of_ble_eq_true rfl, Nat.le_of_ble_eq_true rfl⟩) hw ma_0 rfl rfl hl.1 rfl (Nat.le_of_ble_eq_true rfl) dX6_mixGuest_28 ⟨Nat.zero_le _, Nat.zero_le _⟩ rfl (fun H locs hw => ?_)
        refine lv_i2l hx hb dX6_mixGuest_31 rfl ?_
        obtain ⟨M2, hr2, hf⟩ := bndS hf
        refine q_callV (rest := []) (st1 := []) [.long r1.toInt64] ⟨hx, hb, hml, hown, hts⟩ (c_X6_mix hr2) (cwV 1 hts gX6_mixGuest_X6_mix rfl rfl rfl (by decide +kernel) ⟨Nat.le_of_ble_eq_true rfl, Nat.le_of_ble_eq_true rfl⟩) hw ma_0 rfl rfl hl.1 rfl (Nat.le_of_ble_eq_true rfl) dX6_mixGuest_32 ⟨Nat.zero_le _, Nat.zero_le _⟩ rfl (fun H locs hw => ?_)
        refine lv_aload_n hx hb dX6_mixGuest_35 rfl (lv_at hl 0 rfl) ?_
        refine lv_aload_n hx hb dX6_mixGuest_36 rfl (lv_at hl 0 rfl) ?_
        refine lv_iload_n hx hb dX6_mixGuest_37 rfl (lv_at hl 1 rfl) ?_
        obtain ⟨r3, hr3, hf⟩ := bndS hf
        refine q_callV (rest := [.ref (ad 0)]) (st1 := [.int r3, .ref (ad 0)]) [.int x1] ⟨hx, hb, hml, hown, hts⟩ (c_X6_whyNoLine hr3) (cwV 1 hts gX6_mixGuest_X6_whyNoLine rfl rfl rfl (by decide +kernel) ⟨Nat.le_of_ble_eq_true rfl, Nat.le_of_ble_eq_true rfl⟩) hw ma_0 rfl rfl hl.1 rfl (Nat.le_of_ble_eq_true rfl) dX6_mixGuest_38 ⟨Nat.zero_le _, Nat.zero_le _⟩ rfl (fun H locs hw => ?_)
        refine lv_i2l hx hb dX6_mixGuest_41 rfl ?_
        obtain ⟨M4, hr4, hf⟩ := bndS hf
        refine q_callV (rest := []) (st1 := []) [.long r3.toInt64] ⟨hx, hb, hml, hown, hts⟩ (c_X6_mix hr4) (cwV 1 hts gX6_mixGuest_X6_mix rfl rfl rfl (by decide +kernel) ⟨Nat.le_of_ble_eq_true rfl, Nat.le_of_ble_eq_true rfl⟩) hw ma_0 rfl rfl hl.1 rfl (Nat.le_of_ble_eq_true rfl) dX6_mixGuest_42 ⟨Nat.zero_le _, Nat.zero_le _⟩ rfl (fun H locs hw => ?_)
        refine lv_aload_n hx hb dX6_mixGuest_45 rfl (lv_at hl 0 rfl) ?_
        refine lv_aload_n hx hb dX6_mixGuest_46 rfl (lv_at hl 0 rfl) ?_
        refine lv_iload_n hx hb dX6_mixGuest_47 rfl (lv_at hl 1 rfl) ?_
        obtain ⟨r5, M6, hr6, hf⟩ := bnd2S hf
        refine q_callV (rest := [.ref (ad 0)]) (st1 := [.int r5, .ref (ad 0)]) [.int x1] ⟨hx, hb, hml, hown, hts⟩ (c_X6_best hr6) (cwV 1 hts gX6_mixGuest_X6_best rfl rfl rfl (by decide +kernel) ⟨Nat.le_of_ble_eq_true rfl, Nat.le_of_ble_eq_true rfl⟩) hw ma_0 rfl rfl hl.1 rfl (Nat.le_of_ble_eq_true rfl) dX6_mixGuest_48 ⟨Nat.zero_le _, Nat.zero_le _⟩ rfl (fun H locs hw => ?_)
        refine lv_i2l hx hb dX6_mixGuest_51 rfl ?_
        obtain ⟨M7, hr7, hf⟩ := bndS hf
        refine q_callV (rest := []) (st1 := []) [.long r5.toInt64] ⟨hx, hb, hml, hown, hts⟩ (c_X6_mix hr7) (cwV 1 hts gX6_mixGuest_X6_mix rfl rfl rfl (by decide +kernel) ⟨Nat.le_of_ble_eq_true rfl, Nat.le_of_ble_eq_true rfl⟩) hw ma_0 rfl rfl hl.1 rfl (Nat.le_of_ble_eq_true rfl) dX6_mixGuest_52 ⟨Nat.zero_le _, Nat.zero_le _⟩ rfl (fun H locs hw => ?_)
        refine lv_iconst (v := 0) hx hb dX6_mixGuest_55 (by decide) ?_
        refine lv_istore_n (lv' := [(2, .int 0), (0, .ref (ad 0)), (1, .int x1)]) hx hb dX6_mixGuest_56 rfl hl (by decide) rfl (fun ls hl => ?_)
        exact L57 fuelN M7 x1 0 H locs ls hf hw (lv_sub hl [1, 2, 0] rfl)
      · have hf := iteF hf hc
        refine lv_aload_n hx hb dX6_mixGuest_8 rfl (lv_at hl 0 rfl) ?_
        refine lv_aload_n hx hb dX6_mixGuest_9 rfl (lv_at hl 0 rfl) ?_
        refine lv_iload_n hx hb dX6_mixGuest_10 rfl (lv_at hl 1 rfl) ?_
        refine lv_iload_n hx hb dX6_mixGuest_11 rfl (lv_at hl 2 rfl) ?_
        obtain ⟨r8, hr8, hf⟩ := bndS hf
        refine q_callV (rest := [.ref (ad 0)]) (st1 := [.int r8, .ref (ad 0)]) [.int x1, .int x2] ⟨hx, hb, hml, hown, hts⟩ (c_X6_ofGuest hr8) (cwV 2 hts gX6_mixGuest_X6_ofGuest rfl rfl rfl (by decide +kernel) ⟨Nat.le_of_ble_eq_true rfl, Nat.le_of_ble_eq_true rfl⟩) hw ma_0 rfl rfl hl.1 rfl (Nat.le_of_ble_eq_true rfl) dX6_mixGuest_12 ⟨Nat.zero_le _, Nat.zero_le _⟩ rfl (fun H locs hw => ?_)
        refine lv_i2l hx hb dX6_mixGuest_15 rfl ?_
        obtain ⟨M9, hr9, hf⟩ := bndS hf
        refine q_callV (rest := []) (st1 := []) [.long r8.toInt64] ⟨hx, hb, hml, hown, hts⟩ (c_X6_mix hr9) (cwV 1 hts gX6_mixGuest_X6_mix rfl rfl rfl (by decide +kernel) ⟨Nat.le_of_ble_eq_true rfl, Nat.le_of_ble_eq_true rfl⟩) hw ma_0 rfl rfl hl.1 rfl (Nat.le_of_ble_eq_true rfl) dX6_mixGuest_16 ⟨Nat.zero_le _, Nat.zero_le _⟩ rfl (fun H locs hw => ?_)
        obtain ⟨v10, hv10, hf⟩ := nmE hf
        refine lv_iinc (v := v10) (lv' := [(2, .int v10), (0, .ref (ad 0)), (1, .int x1)]) hx hb dX6_mixGuest_19 hl (k := 2) rfl (by rw [hv10]; rfl) (by decide) rfl (fun ls hl => ?_)
        refine lv_goto (tgt := 2) hx hb dX6_mixGuest_22 (by decide) ?_
        exact ih2 M9 x1 v10 H locs ls hf hw (lv_sub hl [1, 2, 0] rfl)
  refine lv_iconst (v := 0) hx hb dX6_mixGuest_0 (by decide) ?_
  refine lv_istore_n (lv' := [(2, .int 0), (0, .ref (ad 0)), (1, .int a1)]) hx hb dX6_mixGuest_1 rfl hl (by decide) rfl (fun ls hl => ?_)
  exact L2 fuelN M a1 0 H locs ls hf hw (lv_sub hl [1, 2, 0] rfl)

def f_X6_digest_l186    : Nat → MS → Int32 → Option (Int64 × MS)
  | 0, _, _ => none
  | n186 + 1, M, x1 => (if (M.1 3 3) ≤ x1 then some (M.2, M) else gd (inb x1 60) (nm (M.1 1 x1.toNatClampNeg) (fun v1 => bnd (f_X6_mix M v1.toInt64) (fun M2 => nm (x1 + 1) (fun v3 => (f_X6_digest_l186 n186) M2 v3)))))
def f_X6_digest_l108 (k61 : MS → Int32 → Option (Int64 × MS))   : Nat → MS → Int32 → Int32 → Option (Int64 × MS)
  | 0, _, _, _ => none
  | n108 + 1, M, x1, x2 => bnd (f_X6_lineLength M x1) (fun r1 => (if r1 ≤ x2 then nm (x1 + 1) (fun v2 => k61 M v2) else bnd (f_X6_inLine M x1 x2) (fun r3 => bnd (f_X6_mix M r3.toInt64) (fun M4 => nm (x2 + 1) (fun v5 => (f_X6_digest_l108 k61 n108) M4 x1 v5)))))
def f_X6_digest_l78 (k61 : MS → Int32 → Option (Int64 × MS))   : Nat → MS → Int32 → Int32 → Option (Int64 × MS)
  | 0, _, _, _ => none
  | n78 + 1, M, x1, x2 => (if 5 ≤ x2 then f_X6_digest_l108 k61 fuelN M x1 0 else gd (inb 0 952) (nm (M.1 0 (0 : Int32).toNatClampNeg) (fun v1 => bnd (f_X6_allowed M x1 x2 v1) (fun r2 => bnd (f_X6_mix M r2.toInt64) (fun M3 => nm (x2 + 1) (fun v4 => (f_X6_digest_l78 k61 n78) M3 x1 v4))))))
def f_X6_digest_l61    : Nat → MS → Int32 → Option (Int64 × MS)
  | 0, _, _ => none
  | n61 + 1, M, x1 => (if 3 ≤ x1 then gd (inb 8 952) (nm (M.1 0 (8 : Int32).toNatClampNeg) (fun v1 => bnd (f_X6_mix M v1.toInt64) (fun M2 => gd (inb 9 952) (nm (M2.1 0 (9 : Int32).toNatClampNeg) (fun v3 => bnd (f_X6_mix M2 v3.toInt64) (fun M4 => bnd (f_X6_decent M4) (fun r5 => bnd (f_X6_bits r5) (fun r6 => bnd (f_X6_mix M4 r6) (fun M7 => bnd (f_X6_mix M7 ((M7.1 3 3).toInt64)) (fun M8 => f_X6_digest_l186 fuelN M8 0)))))))))) else bnd (f_X6_lineLength M x1) (fun r9 => bnd (f_X6_mix M r9.toInt64) (fun M10 => f_X6_digest_l78 (f_X6_digest_l61 n61) fuelN M10 x1 0)))
def f_X6_digest_l38    : Nat → MS → Int32 → Option (Int64 × MS)
  | 0, _, _ => none
  | n38 + 1, M, x1 => gd (inb 1 952) (nm (M.1 0 (1 : Int32).toNatClampNeg) (fun v1 => (if v1 ≤ x1 then f_X6_digest_l61 fuelN M 0 else bnd (f_X6_mixGuest M x1) (fun M2 => nm (x1 + 1) (fun v3 => (f_X6_digest_l38 n38) M2 v3)))))
def f_X6_digest_l14    : Nat → MS → Int32 → Option (Int64 × MS)
  | 0, _, _ => none
  | n14 + 1, M, x1 => (if 22 ≤ x1 then f_X6_digest_l38 fuelN M 0 else bnd (f_X6_counted M x1) (fun r1 => bnd (f_X6_mix M r1.toInt64) (fun M2 => nm (x1 + 1) (fun v3 => (f_X6_digest_l14 n14) M2 v3))))
def f_X6_digest (M : MS)   : Option (Int64 × MS) := nm (upMS M 3 0 0) (fun M1 => nm (upH M1 (3923 : Int64)) (fun M2 => f_X6_digest_l14 fuelN M2 0))
set_option maxHeartbeats 4000000 in
set_option maxRecDepth 100000 in
theorem c_X6_digest {l : Launch} {D : va_G} {cI cR : ClassId} {ad : Nat → Nat} {A : Nat → Prop} {M : MS} {M' : MS}  {r : Int64}  (hf : f_X6_digest M = some (r, M')) : MC l yX6_digest wsX6_digest 6 146 D cI cR A [.ref (ad 0)] (mws cI ad M) (some (.long r)) (mws cI ad M') := by
  refine Met.ofW (cc := cX6_digest) (maxL := 3) (ret := (some .long)) (by decide) rfl ?_
  intro p e s m args below meth c s₁ B hml hv
  obtain ⟨rfl, hw⟩ := q_start hv
  have hx := B.exec
  have hb := B.bytes
  have hr := B.returns
  have hts := atoms_spec (ws := wsX6_digest) B.pre
  have hown : s.vm.findClass RX6 = some m.cls := findClass_of_methodNamed B.named
  have hlocks := B.notSynchronized
  have hiX6 : ∀ w ∈ wsX60, w ∈ wsX6_digest := by decide +kernel
  have hl := lv_entry ([.ref (ad 0)]) (n := 3) (Nat.le_of_ble_eq_true rfl)
  rw [lg_entry_eq]
  generalize (lg_sl ([.ref (ad 0)]) ++ List.replicate (3 - (lg_sl ([.ref (ad 0)])).length) Slot.unset).toArray = ls at hl ⊢
  have hl : lv_has ls 3 [(0, .ref (ad 0))] := hl
  unfold f_X6_digest at hf
  obtain ⟨H, eH⟩ : ∃ H, H = s.heap := ⟨_, rfl⟩
  obtain ⟨locs, eL⟩ : ∃ L : List Loc, L = [] := ⟨_, rfl⟩
  rw [← eH, ← eL] at hw ⊢
  clear eH eL
  have L186 : ∀ (n186 : Nat) (M : MS) (x1 : Int32) (H : Heap) (locs : List Loc) (ls : Array Slot), f_X6_digest_l186 n186 M x1 = some (r, M') → WH D cI cR A (mws cI ad M) s H locs → lv_has ls 3 [(0, .ref (ad 0)), (1, .int x1)] → W p l e (headSpec wsX6_digest ({ frames := 6, cells := 0, slots := 0, locals := 146 })).room s m ([.ref (ad 0)] : List Value).toArray below meth c H locs 0 0 (MQ below (QV (some (.long r)) D A (mws cI ad M')) (([.ref (ad 0)] : List Value)).toArray s 0 0 A) (F0 m 186 ls []) := by
    intro n186
    induction n186 with
    | zero => intro M x1 H locs ls hf; cases hf
    | succ n186 ih =>
      have ih186 := ih
      intro M x1 H locs ls hf hw hl
      simp only [f_X6_digest_l186] at hf
      refine lv_iload_n hx hb dX6_digest_186 rfl (lv_at hl 1 rfl) ?_
      refine lv_aload_n hx hb dX6_digest_187 rfl (lv_at hl 0 rfl) ?_
      refine q_get hx hb hts hiX6 hown hw 0 ma_0 rfl 5 (by decide) (hts (.fieldLink RX6 121 "LaceRanksModel" "length" "I") (by decide +kernel)) rfl dX6_digest_188 ?_
      refine lv_icmp_ge (tgt := 211) hx hb dX6_digest_191 (by decide) (fun hc => ?_) (fun hc => ?_)
      · have hf := iteT hf hc
        refine lv_aload_n hx hb dX6_digest_211 rfl (lv_at hl 0 rfl) ?_
        refine q_get hx hb hts hiX6 hown hw 0 ma_0 rfl 11 (by decide) (hts (.fieldLink RX6 195 "LaceRanksModel" "hash" "J") (by decide +kernel)) rfl dX6_digest_212 ?_
        cases hf
        exact q_lret hx hb hr hlocks hw dX6_digest_215
      · have hf := iteF hf hc
        refine lv_aload_n hx hb dX6_digest_194 rfl (lv_at hl 0 rfl) ?_
        refine lv_aload_n hx hb dX6_digest_195 rfl (lv_at hl 0 rfl) ?_
        refine q_get hx hb hts hiX6 hown hw 0 ma_0 rfl 4 (by decide) (hts (.fieldLink RX6 13 "LaceRanksModel" "text" "[I") (by decide +kernel)) rfl dX6_digest_196 ?_
        refine lv_iload_n hx hb dX6_digest_199 rfl (lv_at hl 1 rfl) ?_
        obtain ⟨hg, hf⟩ := gdE hf
        obtain ⟨v1, hv1, hf⟩ := nmE hf
        refine q_iald hx hb hw 2 ma_2 (inb_in hg) dX6_digest_200 ?_
        refine q_is hv1 ?_
        refine lv_i2l hx hb dX6_digest_201 rfl ?_
        obtain ⟨M2, hr2, hf⟩ := bndS hf
        refine q_callV (rest := []) (st1 := []) [.long v1.toInt64] ⟨hx, hb, hml, hown, hts⟩ (c_X6_mix hr2) (cwV 1 hts gX6_digest_X6_mix rfl rfl rfl (by decide +kernel) ⟨Nat.le_of_ble_eq_true rfl, Nat.le_of_ble_eq_true rfl⟩) hw ma_0 rfl rfl hl.1 rfl (Nat.le_of_ble_eq_true rfl) dX6_digest_202 ⟨Nat.zero_le _, Nat.zero_le _⟩ rfl (fun H locs hw => ?_)
        obtain ⟨v3, hv3, hf⟩ := nmE hf
        refine lv_iinc (v := v3) (lv' := [(1, .int v3), (0, .ref (ad 0))]) hx hb dX6_digest_205 hl (k := 1) rfl (by rw [hv3]; rfl) (by decide) rfl (fun ls hl => ?_)
        refine lv_goto (tgt := 186) hx hb dX6_digest_208 (by decide) ?_
        exact ih186 M2 v3 H locs ls hf hw (lv_sub hl [1, 0] rfl)
  have L61 : ∀ (n61 : Nat) (M : MS) (x1 : Int32) (H : Heap) (locs : List Loc) (ls : Array Slot), f_X6_digest_l61 n61 M x1 = some (r, M') → WH D cI cR A (mws cI ad M) s H locs → lv_has ls 3 [(0, .ref (ad 0)), (1, .int x1)] → W p l e (headSpec wsX6_digest ({ frames := 6, cells := 0, slots := 0, locals := 146 })).room s m ([.ref (ad 0)] : List Value).toArray below meth c H locs 0 0 (MQ below (QV (some (.long r)) D A (mws cI ad M')) (([.ref (ad 0)] : List Value)).toArray s 0 0 A) (F0 m 61 ls []) := by
    intro n61
    induction n61 with
    | zero => intro M x1 H locs ls hf; cases hf
    | succ n61 ih =>
      have ih61 := ih
      have L108 : ∀ (n108 : Nat) (M : MS) (x1 : Int32) (x2 : Int32) (H : Heap) (locs : List Loc) (ls : Array Slot), f_X6_digest_l108 (f_X6_digest_l61 n61) n108 M x1 x2 = some (r, M') → WH D cI cR A (mws cI ad M) s H locs → lv_has ls 3 [(0, .ref (ad 0)), (1, .int x1), (2, .int x2)] → W p l e (headSpec wsX6_digest ({ frames := 6, cells := 0, slots := 0, locals := 146 })).room s m ([.ref (ad 0)] : List Value).toArray below meth c H locs 0 0 (MQ below (QV (some (.long r)) D A (mws cI ad M')) (([.ref (ad 0)] : List Value)).toArray s 0 0 A) (F0 m 108 ls []) := by
        intro n108
        induction n108 with
        | zero => intro M x1 x2 H locs ls hf; cases hf
        | succ n108 ih =>
          have ih108 := ih
          intro M x1 x2 H locs ls hf hw hl
          simp only [f_X6_digest_l108] at hf
          refine lv_iload_n hx hb dX6_digest_108 rfl (lv_at hl 2 rfl) ?_
          refine lv_aload_n hx hb dX6_digest_109 rfl (lv_at hl 0 rfl) ?_
          refine lv_iload_n hx hb dX6_digest_110 rfl (lv_at hl 1 rfl) ?_
          obtain ⟨r1, hr1, hf⟩ := bndS hf
          refine q_callV (rest := [.int x2]) (st1 := [.int r1, .int x2]) [.int x1] ⟨hx, hb, hml, hown, hts⟩ (c_X6_lineLength hr1) (cwV 1 hts gX6_digest_X6_lineLength rfl rfl rfl (by decide +kernel) ⟨Nat.le_of_ble_eq_true rfl, Nat.le_of_ble_eq_true rfl⟩) hw ma_0 rfl rfl hl.1 rfl (Nat.le_of_ble_eq_true rfl) dX6_digest_111 ⟨Nat.zero_le _, Nat.zero_le _⟩ rfl (fun H locs hw => ?_)
          refine lv_icmp_ge (tgt := 134) hx hb dX6_digest_114 (by decide) (fun hc => ?_) (fun hc => ?_)
          · have hf := iteT hf hc
            obtain ⟨v2, hv2, hf⟩ := nmE hf
            refine lv_iinc (v := v2) (lv' := [(1, .int v2), (0, .ref (ad 0)), (2, .int x2)]) hx hb dX6_digest_134 hl (k := 1) rfl (by rw [hv2]; rfl) (by decide) rfl (fun ls hl => ?_)
            refine lv_goto (tgt := 61) hx hb dX6_digest_137 (by decide) ?_
            exact ih61 M v2 H locs ls hf hw (lv_sub hl [1, 0] rfl)
          · have hf := iteF hf hc
            refine lv_aload_n hx hb dX6_digest_117 rfl (lv_at hl 0 rfl) ?_
            refine lv_aload_n hx hb dX6_digest_118 rfl (lv_at hl 0 rfl) ?_
            refine lv_iload_n hx hb dX6_digest_119 rfl (lv_at hl 1 rfl) ?_
            refine lv_iload_n hx hb dX6_digest_120 rfl (lv_at hl 2 rfl) ?_
            obtain ⟨r3, hr3, hf⟩ := bndS hf
            refine q_callV (rest := [.ref (ad 0)]) (st1 := [.int r3, .ref (ad 0)]) [.int x1, .int x2] ⟨hx, hb, hml, hown, hts⟩ (c_X6_inLine hr3) (cwV 2 hts gX6_digest_X6_inLine rfl rfl rfl (by decide +kernel) ⟨Nat.le_of_ble_eq_true rfl, Nat.le_of_ble_eq_true rfl⟩) hw ma_0 rfl rfl hl.1 rfl (Nat.le_of_ble_eq_true rfl) dX6_digest_121 ⟨Nat.zero_le _, Nat.zero_le _⟩ rfl (fun H locs hw => ?_)
            refine lv_i2l hx hb dX6_digest_124 rfl ?_
            obtain ⟨M4, hr4, hf⟩ := bndS hf
            refine q_callV (rest := []) (st1 := []) [.long r3.toInt64] ⟨hx, hb, hml, hown, hts⟩ (c_X6_mix hr4) (cwV 1 hts gX6_digest_X6_mix rfl rfl rfl (by decide +kernel) ⟨Nat.le_of_ble_eq_true rfl, Nat.le_of_ble_eq_true rfl⟩) hw ma_0 rfl rfl hl.1 rfl (Nat.le_of_ble_eq_true rfl) dX6_digest_125 ⟨Nat.zero_le _, Nat.zero_le _⟩ rfl (fun H locs hw => ?_)
            obtain ⟨v5, hv5, hf⟩ := nmE hf
            refine lv_iinc (v := v5) (lv' := [(2, .int v5), (0, .ref (ad 0)), (1, .int x1)]) hx hb dX6_digest_128 hl (k := 2) rfl (by rw [hv5]; rfl) (by decide) rfl (fun ls hl => ?_)
            refine lv_goto (tgt := 108) hx hb dX6_digest_131 (by decide) ?_
            exact ih108 M4 x1 v5 H locs ls hf hw (lv_sub hl [1, 2, 0] rfl)
      have L78 : ∀ (n78 : Nat) (M : MS) (x1 : Int32) (x2 : Int32) (H : Heap) (locs : List Loc) (ls : Array Slot), f_X6_digest_l78 (f_X6_digest_l61 n61) n78 M x1 x2 = some (r, M') → WH D cI cR A (mws cI ad M) s H locs → lv_has ls 3 [(0, .ref (ad 0)), (1, .int x1), (2, .int x2)] → W p l e (headSpec wsX6_digest ({ frames := 6, cells := 0, slots := 0, locals := 146 })).room s m ([.ref (ad 0)] : List Value).toArray below meth c H locs 0 0 (MQ below (QV (some (.long r)) D A (mws cI ad M')) (([.ref (ad 0)] : List Value)).toArray s 0 0 A) (F0 m 78 ls []) := by
        intro n78
        induction n78 with
        | zero => intro M x1 x2 H locs ls hf; cases hf
        | succ n78 ih =>
          have ih78 := ih
          intro M x1 x2 H locs ls hf hw hl
          simp only [f_X6_digest_l78] at hf
          refine lv_iload_n hx hb dX6_digest_78 rfl (lv_at hl 2 rfl) ?_
          refine lv_iconst (v := 5) hx hb dX6_digest_79 (by decide) ?_
          refine lv_icmp_ge (tgt := 106) hx hb dX6_digest_80 (by decide) (fun hc => ?_) (fun hc => ?_)
          · have hf := iteT hf hc
            refine lv_iconst (v := 0) hx hb dX6_digest_106 (by decide) ?_
            refine lv_istore_n (lv' := [(2, .int 0), (0, .ref (ad 0)), (1, .int x1)]) hx hb dX6_digest_107 rfl hl (by decide) rfl (fun ls hl => ?_)
            exact L108 fuelN M x1 0 H locs ls hf hw (lv_sub hl [1, 2, 0] rfl)
          · have hf := iteF hf hc
            refine lv_aload_n hx hb dX6_digest_83 rfl (lv_at hl 0 rfl) ?_
            refine lv_aload_n hx hb dX6_digest_84 rfl (lv_at hl 0 rfl) ?_
            refine lv_iload_n hx hb dX6_digest_85 rfl (lv_at hl 1 rfl) ?_
            refine lv_iload_n hx hb dX6_digest_86 rfl (lv_at hl 2 rfl) ?_
            refine lv_aload_n hx hb dX6_digest_87 rfl (lv_at hl 0 rfl) ?_
            refine q_get hx hb hts hiX6 hown hw 0 ma_0 rfl 1 (by decide) (hts (.fieldLink RX6 7 "LaceRanksModel" "s" "[I") (by decide +kernel)) rfl dX6_digest_88 ?_
            refine lv_iconst (v := 0) hx hb dX6_digest_91 (by decide) ?_
            obtain ⟨hg, hf⟩ := gdE hf
            obtain ⟨v1, hv1, hf⟩ := nmE hf
            refine q_iald hx hb hw 1 ma_1 (inb_in hg) dX6_digest_92 ?_
            refine q_is hv1 ?_
            obtain ⟨r2, hr2, hf⟩ := bndS hf
            refine q_callV (rest := [.ref (ad 0)]) (st1 := [.int r2, .ref (ad 0)]) [.int x1, .int x2, .int v1] ⟨hx, hb, hml, hown, hts⟩ (c_X6_allowed hr2) (cwV 3 hts gX6_digest_X6_allowed rfl rfl rfl (by decide +kernel) ⟨Nat.le_of_ble_eq_true rfl, Nat.le_of_ble_eq_true rfl⟩) hw ma_0 rfl rfl hl.1 rfl (Nat.le_of_ble_eq_true rfl) dX6_digest_93 ⟨Nat.zero_le _, Nat.zero_le _⟩ rfl (fun H locs hw => ?_)
            refine lv_i2l hx hb dX6_digest_96 rfl ?_
            obtain ⟨M3, hr3, hf⟩ := bndS hf
            refine q_callV (rest := []) (st1 := []) [.long r2.toInt64] ⟨hx, hb, hml, hown, hts⟩ (c_X6_mix hr3) (cwV 1 hts gX6_digest_X6_mix rfl rfl rfl (by decide +kernel) ⟨Nat.le_of_ble_eq_true rfl, Nat.le_of_ble_eq_true rfl⟩) hw ma_0 rfl rfl hl.1 rfl (Nat.le_of_ble_eq_true rfl) dX6_digest_97 ⟨Nat.zero_le _, Nat.zero_le _⟩ rfl (fun H locs hw => ?_)
            obtain ⟨v4, hv4, hf⟩ := nmE hf
            refine lv_iinc (v := v4) (lv' := [(2, .int v4), (0, .ref (ad 0)), (1, .int x1)]) hx hb dX6_digest_100 hl (k := 2) rfl (by rw [hv4]; rfl) (by decide) rfl (fun ls hl => ?_)
            refine lv_goto (tgt := 78) hx hb dX6_digest_103 (by decide) ?_
            exact ih78 M3 x1 v4 H locs ls hf hw (lv_sub hl [1, 2, 0] rfl)
      intro M x1 H locs ls hf hw hl
      simp only [f_X6_digest_l61] at hf
      refine lv_iload_n hx hb dX6_digest_61 rfl (lv_at hl 1 rfl) ?_
      refine lv_iconst (v := 3) hx hb dX6_digest_62 (by decide) ?_
      refine lv_icmp_ge (tgt := 140) hx hb dX6_digest_63 (by decide) (fun hc => ?_) (fun hc => ?_)
      · have hf := iteT hf hc
        refine lv_aload_n hx hb dX6_digest_140 rfl (lv_at hl 0 rfl) ?_
        refine lv_aload_n hx hb dX6_digest_141 rfl (lv_at hl 0 rfl) ?_
        refine q_get hx hb hts hiX6 hown hw 0 ma_0 rfl 1 (by decide) (hts (.fieldLink RX6 7 "LaceRanksModel" "s" "[I") (by decide +kernel)) rfl dX6_digest_142 ?_
        refine lv_bipush (v := 8) hx hb dX6_digest_145 (by decide) ?_
        obtain ⟨hg, hf⟩ := gdE hf
        obtain ⟨v1, hv1, hf⟩ := nmE hf
        refine q_iald hx hb hw 1 ma_1 (inb_in hg) dX6_digest_147 ?_
        refine q_is hv1 ?_
        refine lv_i2l hx hb dX6_digest_148 rfl ?_
        obtain ⟨M2, hr2, hf⟩ := bndS hf
        refine q_callV (rest := []) (st1 := []) [.long v1.toInt64] ⟨hx, hb, hml, hown, hts⟩ (c_X6_mix hr2) (cwV 1 hts gX6_digest_X6_mix rfl rfl rfl (by decide +kernel) ⟨Nat.le_of_ble_eq_true rfl, Nat.le_of_ble_eq_true rfl⟩) hw ma_0 rfl rfl hl.1 rfl (Nat.le_of_ble_eq_true rfl) dX6_digest_149 ⟨Nat.zero_le _, Nat.zero_le _⟩ rfl (fun H locs hw => ?_)
        refine lv_aload_n hx hb dX6_digest_152 rfl (lv_at hl 0 rfl) ?_
        refine lv_aload_n hx hb dX6_digest_153 rfl (lv_at hl 0 rfl) ?_
        refine q_get hx hb hts hiX6 hown hw 0 ma_0 rfl 1 (by decide) (hts (.fieldLink RX6 7 "LaceRanksModel" "s" "[I") (by decide +kernel)) rfl dX6_digest_154 ?_
        refine lv_bipush (v := 9) hx hb dX6_digest_157 (by decide) ?_
        obtain ⟨hg, hf⟩ := gdE hf
        obtain ⟨v3, hv3, hf⟩ := nmE hf
        refine q_iald hx hb hw 1 ma_1 (inb_in hg) dX6_digest_159 ?_
        refine q_is hv3 ?_
        refine lv_i2l hx hb dX6_digest_160 rfl ?_
        obtain ⟨M4, hr4, hf⟩ := bndS hf
        refine q_callV (rest := []) (st1 := []) [.long v3.toInt64] ⟨hx, hb, hml, hown, hts⟩ (c_X6_mix hr4) (cwV 1 hts gX6_digest_X6_mix rfl rfl rfl (by decide +kernel) ⟨Nat.le_of_ble_eq_true rfl, Nat.le_of_ble_eq_true rfl⟩) hw ma_0 rfl rfl hl.1 rfl (Nat.le_of_ble_eq_true rfl) dX6_digest_161 ⟨Nat.zero_le _, Nat.zero_le _⟩ rfl (fun H locs hw => ?_)
        refine lv_aload_n hx hb dX6_digest_164 rfl (lv_at hl 0 rfl) ?_
        refine lv_aload_n hx hb dX6_digest_165 rfl (lv_at hl 0 rfl) ?_
        obtain ⟨r5, hr5, hf⟩ := bndS hf
        refine q_callV (rest := [.ref (ad 0)]) (st1 := [.double r5, .ref (ad 0)]) [] ⟨hx, hb, hml, hown, hts⟩ (c_X6_decent hr5) (cwV 0 hts gX6_digest_X6_decent rfl rfl rfl (by decide +kernel) ⟨Nat.le_of_ble_eq_true rfl, Nat.le_of_ble_eq_true rfl⟩) hw ma_0 rfl rfl hl.1 rfl (Nat.le_of_ble_eq_true rfl) dX6_digest_166 ⟨Nat.zero_le _, Nat.zero_le _⟩ rfl (fun H locs hw => ?_)
        obtain ⟨r6, hr6, hf⟩ := bndS hf
        refine q_callS (rest := [.ref (ad 0)]) (st1 := [.long r6, .ref (ad 0)]) [.double r5] ⟨hx, hb, hml, hown, hts⟩ (c_X6_bits hr6) (va_cwS 1 hts gX6_digest_X6_bits rfl rfl rfl (by decide +kernel) ⟨Nat.le_of_ble_eq_true rfl, Nat.le_of_ble_eq_true rfl⟩) hw rfl hl.1 rfl (Nat.le_of_ble_eq_true rfl) dX6_digest_169 ⟨Nat.zero_le _, Nat.zero_le _⟩ rfl (fun H locs hw => ?_)
        obtain ⟨M7, hr7, hf⟩ := bndS hf
        refine q_callV (rest := []) (st1 := []) [.long r6] ⟨hx, hb, hml, hown, hts⟩ (c_X6_mix hr7) (cwV 1 hts gX6_digest_X6_mix rfl rfl rfl (by decide +kernel) ⟨Nat.le_of_ble_eq_true rfl, Nat.le_of_ble_eq_true rfl⟩) hw ma_0 rfl rfl hl.1 rfl (Nat.le_of_ble_eq_true rfl) dX6_digest_172 ⟨Nat.zero_le _, Nat.zero_le _⟩ rfl (fun H locs hw => ?_)
        refine lv_aload_n hx hb dX6_digest_175 rfl (lv_at hl 0 rfl) ?_
        refine lv_aload_n hx hb dX6_digest_176 rfl (lv_at hl 0 rfl) ?_
        refine q_get hx hb hts hiX6 hown hw 0 ma_0 rfl 5 (by decide) (hts (.fieldLink RX6 121 "LaceRanksModel" "length" "I") (by decide +kernel)) rfl dX6_digest_177 ?_
        refine lv_i2l hx hb dX6_digest_180 rfl ?_
        obtain ⟨M8, hr8, hf⟩ := bndS hf
        refine q_callV (rest := []) (st1 := []) [.long ((M7.1 3 3).toInt64)] ⟨hx, hb, hml, hown, hts⟩ (c_X6_mix hr8) (cwV 1 hts gX6_digest_X6_mix rfl rfl rfl (by decide +kernel) ⟨Nat.le_of_ble_eq_true rfl, Nat.le_of_ble_eq_true rfl⟩) hw ma_0 rfl rfl hl.1 rfl (Nat.le_of_ble_eq_true rfl) dX6_digest_181 ⟨Nat.zero_le _, Nat.zero_le _⟩ rfl (fun H locs hw => ?_)
        refine lv_iconst (v := 0) hx hb dX6_digest_184 (by decide) ?_
        refine lv_istore_n (lv' := [(1, .int 0), (0, .ref (ad 0))]) hx hb dX6_digest_185 rfl hl (by decide) rfl (fun ls hl => ?_)
        exact L186 fuelN M8 0 H locs ls hf hw (lv_sub hl [1, 0] rfl)
      · have hf := iteF hf hc
        refine lv_aload_n hx hb dX6_digest_66 rfl (lv_at hl 0 rfl) ?_
        refine lv_aload_n hx hb dX6_digest_67 rfl (lv_at hl 0 rfl) ?_
        refine lv_iload_n hx hb dX6_digest_68 rfl (lv_at hl 1 rfl) ?_
        obtain ⟨r9, hr9, hf⟩ := bndS hf
        refine q_callV (rest := [.ref (ad 0)]) (st1 := [.int r9, .ref (ad 0)]) [.int x1] ⟨hx, hb, hml, hown, hts⟩ (c_X6_lineLength hr9) (cwV 1 hts gX6_digest_X6_lineLength rfl rfl rfl (by decide +kernel) ⟨Nat.le_of_ble_eq_true rfl, Nat.le_of_ble_eq_true rfl⟩) hw ma_0 rfl rfl hl.1 rfl (Nat.le_of_ble_eq_true rfl) dX6_digest_69 ⟨Nat.zero_le _, Nat.zero_le _⟩ rfl (fun H locs hw => ?_)
        refine lv_i2l hx hb dX6_digest_72 rfl ?_
        obtain ⟨M10, hr10, hf⟩ := bndS hf
        refine q_callV (rest := []) (st1 := []) [.long r9.toInt64] ⟨hx, hb, hml, hown, hts⟩ (c_X6_mix hr10) (cwV 1 hts gX6_digest_X6_mix rfl rfl rfl (by decide +kernel) ⟨Nat.le_of_ble_eq_true rfl, Nat.le_of_ble_eq_true rfl⟩) hw ma_0 rfl rfl hl.1 rfl (Nat.le_of_ble_eq_true rfl) dX6_digest_73 ⟨Nat.zero_le _, Nat.zero_le _⟩ rfl (fun H locs hw => ?_)
        refine lv_iconst (v := 0) hx hb dX6_digest_76 (by decide) ?_
        refine lv_istore_n (lv' := [(2, .int 0), (0, .ref (ad 0)), (1, .int x1)]) hx hb dX6_digest_77 rfl hl (by decide) rfl (fun ls hl => ?_)
        exact L78 fuelN M10 x1 0 H locs ls hf hw (lv_sub hl [1, 2, 0] rfl)
  have L38 : ∀ (n38 : Nat) (M : MS) (x1 : Int32) (H : Heap) (locs : List Loc) (ls : Array Slot), f_X6_digest_l38 n38 M x1 = some (r, M') → WH D cI cR A (mws cI ad M) s H locs → lv_has ls 3 [(0, .ref (ad 0)), (1, .int x1)] → W p l e (headSpec wsX6_digest ({ frames := 6, cells := 0, slots := 0, locals := 146 })).room s m ([.ref (ad 0)] : List Value).toArray below meth c H locs 0 0 (MQ below (QV (some (.long r)) D A (mws cI ad M')) (([.ref (ad 0)] : List Value)).toArray s 0 0 A) (F0 m 38 ls []) := by
    intro n38
    induction n38 with
    | zero => intro M x1 H locs ls hf; cases hf
    | succ n38 ih =>
      have ih38 := ih
      intro M x1 H locs ls hf hw hl
      simp only [f_X6_digest_l38] at hf
      refine lv_iload_n hx hb dX6_digest_38 rfl (lv_at hl 1 rfl) ?_
      refine lv_aload_n hx hb dX6_digest_39 rfl (lv_at hl 0 rfl) ?_
      refine q_get hx hb hts hiX6 hown hw 0 ma_0 rfl 1 (by decide) (hts (.fieldLink RX6 7 "LaceRanksModel" "s" "[I") (by decide +kernel)) rfl dX6_digest_40 ?_
      refine lv_iconst (v := 1) hx hb dX6_digest_43 (by decide) ?_
      obtain ⟨hg, hf⟩ := gdE hf
      obtain ⟨v1, hv1, hf⟩ := nmE hf
      refine q_iald hx hb hw 1 ma_1 (inb_in hg) dX6_digest_44 ?_
      refine q_is hv1 ?_
      refine lv_icmp_ge (tgt := 59) hx hb dX6_digest_45 (by decide) (fun hc => ?_) (fun hc => ?_)
      · have hf := iteT hf hc
        refine lv_iconst (v := 0) hx hb dX6_digest_59 (by decide) ?_
        refine lv_istore_n (lv' := [(1, .int 0), (0, .ref (ad 0))]) hx hb dX6_digest_60 rfl hl (by decide) rfl (fun ls hl => ?_)
        exact L61 fuelN M 0 H locs ls hf hw (lv_sub hl [1, 0] rfl)
      · have hf := iteF hf hc
        refine lv_aload_n hx hb dX6_digest_48 rfl (lv_at hl 0 rfl) ?_
        refine lv_iload_n hx hb dX6_digest_49 rfl (lv_at hl 1 rfl) ?_
        obtain ⟨M2, hr2, hf⟩ := bndS hf
        refine q_callV (rest := []) (st1 := []) [.int x1] ⟨hx, hb, hml, hown, hts⟩ (c_X6_mixGuest hr2) (cwV 1 hts gX6_digest_X6_mixGuest rfl rfl rfl (by decide +kernel) ⟨Nat.le_of_ble_eq_true rfl, Nat.le_of_ble_eq_true rfl⟩) hw ma_0 rfl rfl hl.1 rfl (Nat.le_of_ble_eq_true rfl) dX6_digest_50 ⟨Nat.zero_le _, Nat.zero_le _⟩ rfl (fun H locs hw => ?_)
        obtain ⟨v3, hv3, hf⟩ := nmE hf
        refine lv_iinc (v := v3) (lv' := [(1, .int v3), (0, .ref (ad 0))]) hx hb dX6_digest_53 hl (k := 1) rfl (by rw [hv3]; rfl) (by decide) rfl (fun ls hl => ?_)
        refine lv_goto (tgt := 38) hx hb dX6_digest_56 (by decide) ?_
        exact ih38 M2 v3 H locs ls hf hw (lv_sub hl [1, 0] rfl)
  have L14 : ∀ (n14 : Nat) (M : MS) (x1 : Int32) (H : Heap) (locs : List Loc) (ls : Array Slot), f_X6_digest_l14 n14 M x1 = some (r, M') → WH D cI cR A (mws cI ad M) s H locs → lv_has ls 3 [(0, .ref (ad 0)), (1, .int x1)] → W p l e (headSpec wsX6_digest ({ frames := 6, cells := 0, slots := 0, locals := 146 })).room s m ([.ref (ad 0)] : List Value).toArray below meth c H locs 0 0 (MQ below (QV (some (.long r)) D A (mws cI ad M')) (([.ref (ad 0)] : List Value)).toArray s 0 0 A) (F0 m 14 ls []) := by
    intro n14
    induction n14 with
    | zero => intro M x1 H locs ls hf; cases hf
    | succ n14 ih =>
      have ih14 := ih
      intro M x1 H locs ls hf hw hl
      simp only [f_X6_digest_l14] at hf
      refine lv_iload_n hx hb dX6_digest_14 rfl (lv_at hl 1 rfl) ?_
      refine lv_bipush (v := 22) hx hb dX6_digest_15 (by decide) ?_
      refine lv_icmp_ge (tgt := 36) hx hb dX6_digest_17 (by decide) (fun hc => ?_) (fun hc => ?_)
      · have hf := iteT hf hc
        refine lv_iconst (v := 0) hx hb dX6_digest_36 (by decide) ?_
        refine lv_istore_n (lv' := [(1, .int 0), (0, .ref (ad 0))]) hx hb dX6_digest_37 rfl hl (by decide) rfl (fun ls hl => ?_)
        exact L38 fuelN M 0 H locs ls hf hw (lv_sub hl [1, 0] rfl)
      · have hf := iteF hf hc
        refine lv_aload_n hx hb dX6_digest_20 rfl (lv_at hl 0 rfl) ?_
        refine lv_aload_n hx hb dX6_digest_21 rfl (lv_at hl 0 rfl) ?_
        refine lv_iload_n hx hb dX6_digest_22 rfl (lv_at hl 1 rfl) ?_
        obtain ⟨r1, hr1, hf⟩ := bndS hf
        refine q_callV (rest := [.ref (ad 0)]) (st1 := [.int r1, .ref (ad 0)]) [.int x1] ⟨hx, hb, hml, hown, hts⟩ (c_X6_counted hr1) (cwV 1 hts gX6_digest_X6_counted rfl rfl rfl (by decide +kernel) ⟨Nat.le_of_ble_eq_true rfl, Nat.le_of_ble_eq_true rfl⟩) hw ma_0 rfl rfl hl.1 rfl (Nat.le_of_ble_eq_true rfl) dX6_digest_23 ⟨Nat.zero_le _, Nat.zero_le _⟩ rfl (fun H locs hw => ?_)
        refine lv_i2l hx hb dX6_digest_26 rfl ?_
        obtain ⟨M2, hr2, hf⟩ := bndS hf
        refine q_callV (rest := []) (st1 := []) [.long r1.toInt64] ⟨hx, hb, hml, hown, hts⟩ (c_X6_mix hr2) (cwV 1 hts gX6_digest_X6_mix rfl rfl rfl (by decide +kernel) ⟨Nat.le_of_ble_eq_true rfl, Nat.le_of_ble_eq_true rfl⟩) hw ma_0 rfl rfl hl.1 rfl (Nat.le_of_ble_eq_true rfl) dX6_digest_27 ⟨Nat.zero_le _, Nat.zero_le _⟩ rfl (fun H locs hw => ?_)
        obtain ⟨v3, hv3, hf⟩ := nmE hf
        refine lv_iinc (v := v3) (lv' := [(1, .int v3), (0, .ref (ad 0))]) hx hb dX6_digest_30 hl (k := 1) rfl (by rw [hv3]; rfl) (by decide) rfl (fun ls hl => ?_)
        refine lv_goto (tgt := 14) hx hb dX6_digest_33 (by decide) ?_
        exact ih14 M2 v3 H locs ls hf hw (lv_sub hl [1, 0] rfl)
  refine lv_aload_n hx hb dX6_digest_0 rfl (lv_at hl 0 rfl) ?_
  refine lv_iconst (v := 0) hx hb dX6_digest_1 (by decide) ?_
  obtain ⟨M1, hM1, hf⟩ := nmE hf
  refine q_put (ty := .int) hx hb hts hiX6 tyX6 tyX6_ok nmX6 hown hw 0 ma_0 rfl 0 (by decide) (hts (.fieldLink RX6 19 "LaceRanksModel" "thrown" "I") (by decide +kernel)) rfl (by decide +kernel) rfl rfl (Nat.le_of_ble_eq_true rfl) dX6_digest_2 (ms_0_0.trans (congrArg (fun z => (mws cI ad z)) hM1.symm)) (fun H locs hw => ?_)
  refine lv_aload_n hx hb dX6_digest_5 rfl (lv_at hl 0 rfl) ?_
  refine lv_ldc2 (v := 3923) hx hb hown (hts (.constantLong RX6 211 3923) (by decide +kernel)) dX6_digest_6 ?_
  obtain ⟨M2, hM2, hf⟩ := nmE hf
  refine q_put (ty := .long) hx hb hts hiX6 tyX6 tyX6_ok nmX6 hown hw 0 ma_0 rfl 11 (by decide) (hts (.fieldLink RX6 195 "LaceRanksModel" "hash" "J") (by decide +kernel)) rfl (by decide +kernel) rfl rfl (Nat.le_of_ble_eq_true rfl) dX6_digest_9 (ms_0_h.trans (congrArg (fun z => (mws cI ad z)) hM2.symm)) (fun H locs hw => ?_)
  refine lv_iconst (v := 0) hx hb dX6_digest_12 (by decide) ?_
  refine lv_istore_n (lv' := [(1, .int 0), (0, .ref (ad 0))]) hx hb dX6_digest_13 rfl hl (by decide) rfl (fun ls hl => ?_)
  exact L14 fuelN M2 0 H locs ls hf hw (lv_sub hl [1, 0] rfl)
