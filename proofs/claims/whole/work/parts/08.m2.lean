def f_X6_sign (M : MS)   : Option Int32 := (if (M.1 3 3) ≤ (M.1 3 4) then some 0 else gd (inb (M.1 3 4) 60) (nm (M.1 1 (M.1 3 4).toNatClampNeg) (fun v1 => some v1)))
set_option maxHeartbeats 4000000 in
set_option maxRecDepth 100000 in
theorem c_X6_sign {l : Launch} {D : va_G} {cI cR : ClassId} {ad : Nat → Nat} {A : Nat → Prop} {M : MS}   {r : Int32}  (hf : f_X6_sign M = some r) : MC l yX6_sign wsX6_sign 0 0 D cI cR A [.ref (ad 0)] (mws cI ad M) (some (.int r)) (mws cI ad M) := by
  refine Met.ofW (cc := cX6_sign) (maxL := 1) (ret := (some .int)) (by decide) rfl ?_
  intro p e s m args below meth c s₁ B hml hv
  obtain ⟨rfl, hw⟩ := q_start hv
  have hx := B.exec
  have hb := B.bytes
  have hr := B.returns
  have hts := atoms_spec (ws := wsX6_sign) B.pre
  have hown : s.vm.findClass RX6 = some m.cls := findClass_of_methodNamed B.named
  have hlocks := B.notSynchronized
  have hiX6 : ∀ w ∈ wsX60, w ∈ wsX6_sign := by decide +kernel
  have hl := lv_entry ([.ref (ad 0)]) (n := 1) (Nat.le_of_ble_eq_true rfl)
  rw [lg_entry_eq]
  generalize (lg_sl ([.ref (ad 0)]) ++ List.replicate (1 - (lg_sl ([.ref (ad 0)])).length) Slot.unset).toArray = ls at hl ⊢
  have hl : lv_has ls 1 [(0, .ref (ad 0))] := hl
  unfold f_X6_sign at hf
  obtain ⟨H, eH⟩ : ∃ H, H = s.heap := ⟨_, rfl⟩
  obtain ⟨locs, eL⟩ : ∃ L : List Loc, L = [] := ⟨_, rfl⟩
  rw [← eH, ← eL] at hw ⊢
  clear eH eL
  refine lv_aload_n hx hb dX6_sign_0 rfl (lv_at hl 0 rfl) ?_
  refine q_get hx hb hts hiX6 hown hw 0 ma_0 rfl 6 (by decide) (hts (.fieldLink RX6 124 "LaceRanksModel" "at" "I") (by decide +kernel)) rfl dX6_sign_1 ?_
  refine lv_aload_n hx hb dX6_sign_4 rfl (lv_at hl 0 rfl) ?_
  refine q_get hx hb hts hiX6 hown hw 0 ma_0 rfl 5 (by decide) (hts (.fieldLink RX6 121 "LaceRanksModel" "length" "I") (by decide +kernel)) rfl dX6_sign_5 ?_
  refine lv_icmp_ge (tgt := 23) hx hb dX6_sign_8 (by decide) (fun hc => ?_) (fun hc => ?_)
  · have hf := iteT hf hc
    refine lv_iconst (v := 0) hx hb dX6_sign_23 (by decide) ?_
    cases hf
    exact q_iret hx hb hr hlocks hw dX6_sign_24
  · have hf := iteF hf hc
    refine lv_aload_n hx hb dX6_sign_11 rfl (lv_at hl 0 rfl) ?_
    refine q_get hx hb hts hiX6 hown hw 0 ma_0 rfl 4 (by decide) (hts (.fieldLink RX6 13 "LaceRanksModel" "text" "[I") (by decide +kernel)) rfl dX6_sign_12 ?_
    refine lv_aload_n hx hb dX6_sign_15 rfl (lv_at hl 0 rfl) ?_
    refine q_get hx hb hts hiX6 hown hw 0 ma_0 rfl 6 (by decide) (hts (.fieldLink RX6 124 "LaceRanksModel" "at" "I") (by decide +kernel)) rfl dX6_sign_16 ?_
    obtain ⟨hg, hf⟩ := gdE hf
    obtain ⟨v1, hv1, hf⟩ := nmE hf
    refine q_iald hx hb hw 2 ma_2 (inb_in hg) dX6_sign_19 ?_
    refine q_is hv1 ?_
    refine lv_goto (tgt := 24) hx hb dX6_sign_20 (by decide) ?_
    cases hf
    exact q_iret hx hb hr hlocks hw dX6_sign_24

def f_X6_takes_b28    (M : MS) (x2 : Int32) (y0 : Int32) (y1 : Int32) : Option (Int32 × MS) := nm (upMS M 3 4 (y1 + y0)) (fun M1 => gd (zb x2) (some (x2, M1)))
def f_X6_takes_b13    (M : MS) (y0 : Int32) : Option (Int32 × MS) := (if y0 = 0 then f_X6_takes_b28 M y0 0 (M.1 3 4) else f_X6_takes_b28 M y0 1 (M.1 3 4))
def f_X6_takes (M : MS)  (a1 : Int32) : Option (Int32 × MS) := bnd (f_X6_sign M) (fun r1 => (if r1 = a1 then f_X6_takes_b13 M 1 else f_X6_takes_b13 M 0))
set_option maxHeartbeats 4000000 in
set_option maxRecDepth 100000 in
theorem c_X6_takes {l : Launch} {D : va_G} {cI cR : ClassId} {ad : Nat → Nat} {A : Nat → Prop} {M : MS} {M' : MS} {a1 : Int32} {r : Int32}  (hf : f_X6_takes M a1 = some (r, M')) : MC l yX6_takes wsX6_takes 1 20 D cI cR A [.ref (ad 0), .int a1] (mws cI ad M) (some (.int r)) (mws cI ad M') := by
  refine Met.ofW (cc := cX6_takes) (maxL := 3) (ret := (some .boolean)) (by decide) rfl ?_
  intro p e s m args below meth c s₁ B hml hv
  obtain ⟨rfl, hw⟩ := q_start hv
  have hx := B.exec
  have hb := B.bytes
  have hr := B.returns
  have hts := atoms_spec (ws := wsX6_takes) B.pre
  have hown : s.vm.findClass RX6 = some m.cls := findClass_of_methodNamed B.named
  have hlocks := B.notSynchronized
  have hiX6 : ∀ w ∈ wsX60, w ∈ wsX6_takes := by decide +kernel
  have hl := lv_entry ([.ref (ad 0), .int a1]) (n := 3) (Nat.le_of_ble_eq_true rfl)
  rw [lg_entry_eq]
  generalize (lg_sl ([.ref (ad 0), .int a1]) ++ List.replicate (3 - (lg_sl ([.ref (ad 0), .int a1])).length) Slot.unset).toArray = ls at hl ⊢
  have hl : lv_has ls 3 [(0, .ref (ad 0)), (1, .int a1)] := hl
  unfold f_X6_takes at hf
  obtain ⟨H, eH⟩ : ∃ H, H = s.heap := ⟨_, rfl⟩
  obtain ⟨locs, eL⟩ : ∃ L : List Loc, L = [] := ⟨_, rfl⟩
  rw [← eH, ← eL] at hw ⊢
  clear eH eL
  have B28 : ∀ (M : MS) (x2 : Int32) (y0 : Int32) (y1 : Int32) (H : Heap) (locs : List Loc) (ls : Array Slot), f_X6_takes_b28 M x2 y0 y1 = some (r, M') → WH D cI cR A (mws cI ad M) s H locs → lv_has ls 3 [(2, .int x2)] → W p l e (headSpec wsX6_takes ({ frames := 1, cells := 0, slots := 0, locals := 20 })).room s m ([.ref (ad 0), .int a1] : List Value).toArray below meth c H locs 0 0 (MQ below (QV (some (.int r)) D A (mws cI ad M')) (([.ref (ad 0), .int a1] : List Value)).toArray s 0 0 A) (F0 m 28 ls [.int y0, .int y1, .ref (ad 0)]) := by
    intro M x2 y0 y1 H locs ls hf hw hl
    unfold f_X6_takes_b28 at hf
    refine lv_iadd hx hb dX6_takes_28 ?_
    obtain ⟨M1, hM1, hf⟩ := nmE hf
    refine q_put (ty := .int) hx hb hts hiX6 tyX6 tyX6_ok nmX6 hown hw 0 ma_0 rfl 6 (by decide) (hts (.fieldLink RX6 124 "LaceRanksModel" "at" "I") (by decide +kernel)) rfl (by decide +kernel) rfl rfl (Nat.le_of_ble_eq_true rfl) dX6_takes_29 (ms_0_6.trans (congrArg (fun z => (mws cI ad z)) hM1.symm)) (fun H locs hw => ?_)
    refine lv_iload_n hx hb dX6_takes_32 rfl (lv_at hl 0 rfl) ?_
    obtain ⟨hg, hf⟩ := gdE hf
    cases hf
    exact q_zret hx hb hr (zb_ok hg) hlocks hw dX6_takes_33
  have B13 : ∀ (M : MS) (y0 : Int32) (H : Heap) (locs : List Loc) (ls : Array Slot), f_X6_takes_b13 M y0 = some (r, M') → WH D cI cR A (mws cI ad M) s H locs → lv_has ls 3 [(0, .ref (ad 0))] → W p l e (headSpec wsX6_takes ({ frames := 1, cells := 0, slots := 0, locals := 20 })).room s m ([.ref (ad 0), .int a1] : List Value).toArray below meth c H locs 0 0 (MQ below (QV (some (.int r)) D A (mws cI ad M')) (([.ref (ad 0), .int a1] : List Value)).toArray s 0 0 A) (F0 m 13 ls [.int y0]) := by
    intro M y0 H locs ls hf hw hl
    unfold f_X6_takes_b13 at hf
    refine lv_istore_n (lv' := [(2, .int y0), (0, .ref (ad 0))]) hx hb dX6_takes_13 rfl hl (by decide) rfl (fun ls hl => ?_)
    refine lv_aload_n hx hb dX6_takes_14 rfl (lv_at hl 1 rfl) ?_
    refine lv_dup hx hb dX6_takes_15 rfl ?_
    refine q_get hx hb hts hiX6 hown hw 0 ma_0 rfl 6 (by decide) (hts (.fieldLink RX6 124 "LaceRanksModel" "at" "I") (by decide +kernel)) rfl dX6_takes_16 ?_
    refine lv_iload_n hx hb dX6_takes_19 rfl (lv_at hl 0 rfl) ?_
    refine lv_if_eq (tgt := 27) hx hb dX6_takes_20 (by decide) (fun hc => ?_) (fun hc => ?_)
    · have hf := iteT hf hc
      refine lv_iconst (v := 0) hx hb dX6_takes_27 (by decide) ?_
      exact B28 M y0 0 (M.1 3 4) H locs ls hf hw (lv_sub hl [0] rfl)
    · have hf := iteF hf hc
      refine lv_iconst (v := 1) hx hb dX6_takes_23 (by decide) ?_
      refine lv_goto (tgt := 28) hx hb dX6_takes_24 (by decide) ?_
      exact B28 M y0 1 (M.1 3 4) H locs ls hf hw (lv_sub hl [0] rfl)
  refine lv_aload_n hx hb dX6_takes_0 rfl (lv_at hl 0 rfl) ?_
  obtain ⟨r1, hr1, hf⟩ := bndS hf
  refine q_callV (rest := []) (st1 := [.int r1]) [] ⟨hx, hb, hml, hown, hts⟩ (c_X6_sign hr1) (cwV 0 hts gX6_takes_X6_sign rfl rfl rfl (by decide +kernel) ⟨Nat.le_of_ble_eq_true rfl, Nat.le_of_ble_eq_true rfl⟩) hw ma_0 rfl rfl hl.1 rfl (Nat.le_of_ble_eq_true rfl) dX6_takes_1 ⟨Nat.zero_le _, Nat.zero_le _⟩ rfl (fun H locs hw => ?_)
  refine lv_iload_n hx hb dX6_takes_4 rfl (lv_at hl 1 rfl) ?_
  refine lv_icmp_ne (tgt := 12) hx hb dX6_takes_5 (by decide) (fun hc => ?_) (fun hc => ?_)
  · have hf := iteF hf hc
    refine lv_iconst (v := 0) hx hb dX6_takes_12 (by decide) ?_
    exact B13 M 0 H locs ls hf hw (lv_sub hl [0] rfl)
  · have hf := iteT hf hc
    refine lv_iconst (v := 1) hx hb dX6_takes_8 (by decide) ?_
    refine lv_goto (tgt := 13) hx hb dX6_takes_9 (by decide) ?_
    exact B13 M 1 H locs ls hf hw (lv_sub hl [0] rfl)

def f_X6_figure_b45    (M : MS) (x3 : Int32) (y0 : Int32) (y1 : Int32) : Option (Int32 × MS) := nm (upMS M 3 4 (y1 + y0)) (fun M1 => some (x3, M1))
def f_X6_figure_b29    (M : MS) (y0 : Int32) : Option (Int32 × MS) := (if y0 = (-1) then f_X6_figure_b45 M y0 0 (M.1 3 4) else f_X6_figure_b45 M y0 1 (M.1 3 4))
def f_X6_figure (M : MS)  (a1 : Int32) (a2 : Int32) : Option (Int32 × MS) := bnd (f_X6_sign M) (fun r1 => bnd (f_X6_in r1 (48 + a1) (48 + a2)) (fun r2 => (if r2 = 0 then f_X6_figure_b29 M (-1) else bnd (f_X6_sign M) (fun r3 => f_X6_figure_b29 M (r3 - 48)))))
set_option maxHeartbeats 4000000 in
set_option maxRecDepth 100000 in
theorem c_X6_figure {l : Launch} {D : va_G} {cI cR : ClassId} {ad : Nat → Nat} {A : Nat → Prop} {M : MS} {M' : MS} {a1 : Int32} {a2 : Int32} {r : Int32}  (hf : f_X6_figure M a1 a2 = some (r, M')) : MC l yX6_figure wsX6_figure 1 22 D cI cR A [.ref (ad 0), .int a1, .int a2] (mws cI ad M) (some (.int r)) (mws cI ad M') := by
  refine Met.ofW (cc := cX6_figure) (maxL := 4) (ret := (some .int)) (by decide) rfl ?_
  intro p e s m args below meth c s₁ B hml hv
  obtain ⟨rfl, hw⟩ := q_start hv
  have hx := B.exec
  have hb := B.bytes
  have hr := B.returns
  have hts := atoms_spec (ws := wsX6_figure) B.pre
  have hown : s.vm.findClass RX6 = some m.cls := findClass_of_methodNamed B.named
  have hlocks := B.notSynchronized
  have hiX6 : ∀ w ∈ wsX60, w ∈ wsX6_figure := by decide +kernel
  have hl := lv_entry ([.ref (ad 0), .int a1, .int a2]) (n := 4) (Nat.le_of_ble_eq_true rfl)
  rw [lg_entry_eq]
  generalize (lg_sl ([.ref (ad 0), .int a1, .int a2]) ++ List.replicate (4 - (lg_sl ([.ref (ad 0), .int a1, .int a2])).length) Slot.unset).toArray = ls at hl ⊢
  have hl : lv_has ls 4 [(0, .ref (ad 0)), (1, .int a1), (2, .int a2)] := hl
  unfold f_X6_figure at hf
  obtain ⟨H, eH⟩ : ∃ H, H = s.heap := ⟨_, rfl⟩
  obtain ⟨locs, eL⟩ : ∃ L : List Loc, L = [] := ⟨_, rfl⟩
  rw [← eH, ← eL] at hw ⊢
  clear eH eL
  have B45 : ∀ (M : MS) (x3 : Int32) (y0 : Int32) (y1 : Int32) (H : Heap) (locs : List Loc) (ls : Array Slot), f_X6_figure_b45 M x3 y0 y1 = some (r, M') → WH D cI cR A (mws cI ad M) s H locs → lv_has ls 4 [(3, .int x3)] → W p l e (headSpec wsX6_figure ({ frames := 1, cells := 0, slots := 0, locals := 22 })).room s m ([.ref (ad 0), .int a1, .int a2] : List Value).toArray below meth c H locs 0 0 (MQ below (QV (some (.int r)) D A (mws cI ad M')) (([.ref (ad 0), .int a1, .int a2] : List Value)).toArray s 0 0 A) (F0 m 45 ls [.int y0, .int y1, .ref (ad 0)]) := by
    intro M x3 y0 y1 H locs ls hf hw hl
    unfold f_X6_figure_b45 at hf
    refine lv_iadd hx hb dX6_figure_45 ?_
    obtain ⟨M1, hM1, hf⟩ := nmE hf
    refine q_put (ty := .int) hx hb hts hiX6 tyX6 tyX6_ok nmX6 hown hw 0 ma_0 rfl 6 (by decide) (hts (.fieldLink RX6 124 "LaceRanksModel" "at" "I") (by decide +kernel)) rfl (by decide +kernel) rfl rfl (Nat.le_of_ble_eq_true rfl) dX6_figure_46 (ms_0_6.trans (congrArg (fun z => (mws cI ad z)) hM1.symm)) (fun H locs hw => ?_)
    refine lv_iload_n hx hb dX6_figure_49 rfl (lv_at hl 0 rfl) ?_
    cases hf
    exact q_iret hx hb hr hlocks hw dX6_figure_50
  have B29 : ∀ (M : MS) (y0 : Int32) (H : Heap) (locs : List Loc) (ls : Array Slot), f_X6_figure_b29 M y0 = some (r, M') → WH D cI cR A (mws cI ad M) s H locs → lv_has ls 4 [(0, .ref (ad 0))] → W p l e (headSpec wsX6_figure ({ frames := 1, cells := 0, slots := 0, locals := 22 })).room s m ([.ref (ad 0), .int a1, .int a2] : List Value).toArray below meth c H locs 0 0 (MQ below (QV (some (.int r)) D A (mws cI ad M')) (([.ref (ad 0), .int a1, .int a2] : List Value)).toArray s 0 0 A) (F0 m 29 ls [.int y0]) := by
    intro M y0 H locs ls hf hw hl
    unfold f_X6_figure_b29 at hf
    refine lv_istore_n (lv' := [(3, .int y0), (0, .ref (ad 0))]) hx hb dX6_figure_29 rfl hl (by decide) rfl (fun ls hl => ?_)
    refine lv_aload_n hx hb dX6_figure_30 rfl (lv_at hl 1 rfl) ?_
    refine lv_dup hx hb dX6_figure_31 rfl ?_
    refine q_get hx hb hts hiX6 hown hw 0 ma_0 rfl 6 (by decide) (hts (.fieldLink RX6 124 "LaceRanksModel" "at" "I") (by decide +kernel)) rfl dX6_figure_32 ?_
    refine lv_iload_n hx hb dX6_figure_35 rfl (lv_at hl 0 rfl) ?_
    refine lv_iconst (v := (-1)) hx hb dX6_figure_36 (by decide) ?_
    refine lv_icmp_ne (tgt := 44) hx hb dX6_figure_37 (by decide) (fun hc => ?_) (fun hc => ?_)
    · have hf := iteF hf hc
      refine lv_iconst (v := 1) hx hb dX6_figure_44 (by decide) ?_
      exact B45 M y0 1 (M.1 3 4) H locs ls hf hw (lv_sub hl [0] rfl)
    · have hf := iteT hf hc
      refine lv_iconst (v := 0) hx hb dX6_figure_40 (by decide) ?_
      refine lv_goto (tgt := 45) hx hb dX6_figure_41 (by decide) ?_
      exact B45 M y0 0 (M.1 3 4) H locs ls hf hw (lv_sub hl [0] rfl)
  refine lv_aload_n hx hb dX6_figure_0 rfl (lv_at hl 0 rfl) ?_
  obtain ⟨r1, hr1, hf⟩ := bndS hf
  refine q_callV (rest := []) (st1 := [.int r1]) [] ⟨hx, hb, hml, hown, hts⟩ (c_X6_sign hr1) (cwV 0 hts gX6_figure_X6_sign rfl rfl rfl (by decide +kernel) ⟨Nat.le_of_ble_eq_true rfl, Nat.le_of_ble_eq_true rfl⟩) hw ma_0 rfl rfl hl.1 rfl (Nat.le_of_ble_eq_true rfl) dX6_figure_1 ⟨Nat.zero_le _, Nat.zero_le _⟩ rfl (fun H locs hw => ?_)
  refine lv_bipush (v := 48) hx hb dX6_figure_4 (by decide) ?_
  refine lv_iload_n hx hb dX6_figure_6 rfl (lv_at hl 1 rfl) ?_
  refine lv_iadd hx hb dX6_figure_7 ?_
  refine lv_bipush (v := 48) hx hb dX6_figure_8 (by decide) ?_
  refine lv_iload_n hx hb dX6_figure_10 rfl (lv_at hl 2 rfl) ?_
  refine lv_iadd hx hb dX6_figure_11 ?_
  obtain ⟨r2, hr2, hf⟩ := bndS hf
  refine q_callS (rest := []) (st1 := [.int r2]) [.int r1, .int (48 + a1), .int (48 + a2)] ⟨hx, hb, hml, hown, hts⟩ (c_X6_in hr2) (va_cwS 3 hts gX6_figure_X6_in rfl rfl rfl (by decide +kernel) ⟨Nat.le_of_ble_eq_true rfl, Nat.le_of_ble_eq_true rfl⟩) hw rfl hl.1 rfl (Nat.le_of_ble_eq_true rfl) dX6_figure_12 ⟨Nat.zero_le _, Nat.zero_le _⟩ rfl (fun H locs hw => ?_)
  refine lv_if_eq (tgt := 28) hx hb dX6_figure_15 (by decide) (fun hc => ?_) (fun hc => ?_)
  · have hf := iteT hf hc
    refine lv_iconst (v := (-1)) hx hb dX6_figure_28 (by decide) ?_
    exact B29 M (-1) H locs ls hf hw (lv_sub hl [0] rfl)
  · have hf := iteF hf hc
    refine lv_aload_n hx hb dX6_figure_18 rfl (lv_at hl 0 rfl) ?_
    obtain ⟨r3, hr3, hf⟩ := bndS hf
    refine q_callV (rest := []) (st1 := [.int r3]) [] ⟨hx, hb, hml, hown, hts⟩ (c_X6_sign hr3) (cwV 0 hts gX6_figure_X6_sign rfl rfl rfl (by decide +kernel) ⟨Nat.le_of_ble_eq_true rfl, Nat.le_of_ble_eq_true rfl⟩) hw ma_0 rfl rfl hl.1 rfl (Nat.le_of_ble_eq_true rfl) dX6_figure_19 ⟨Nat.zero_le _, Nat.zero_le _⟩ rfl (fun H locs hw => ?_)
    refine lv_bipush (v := 48) hx hb dX6_figure_22 (by decide) ?_
    refine lv_isub hx hb dX6_figure_24 ?_
    refine lv_goto (tgt := 29) hx hb dX6_figure_25 (by decide) ?_
    exact B29 M (r3 - 48) H locs ls hf hw (lv_sub hl [0] rfl)

def f_X6_readsOften_b55    (M : MS) : Option (Int32 × MS) := (if (M.1 3 7) = (-1) then some (0, M) else some (1, M))
def f_X6_readsOften_b52    (M : MS) (y0 : Int32) : Option (Int32 × MS) := nm (upMS M 3 7 y0) (fun M1 => f_X6_readsOften_b55 M1)
def f_X6_readsOften_b48    (M : MS) : Option (Int32 × MS) := f_X6_readsOften_b52 M (M.1 3 7)
def f_X6_readsOften (M : MS)   : Option (Int32 × MS) := nm (upMS M 3 7 1) (fun M1 => bnd2 (f_X6_takes M1 42) (fun r2 M3 => (if r2 = 0 then f_X6_readsOften_b55 M3 else bnd2 (f_X6_figure M3 1 9) (fun r4 M5 => nm (upMS M5 3 7 r4) (fun M6 => (if (M6.1 3 7) = 1 then bnd2 (f_X6_takes M6 48) (fun r7 M8 => (if r7 = 0 then f_X6_readsOften_b48 M8 else f_X6_readsOften_b52 M8 10)) else f_X6_readsOften_b48 M6))))))
set_option maxHeartbeats 4000000 in
set_option maxRecDepth 100000 in
theorem c_X6_readsOften {l : Launch} {D : va_G} {cI cR : ClassId} {ad : Nat → Nat} {A : Nat → Prop} {M : MS} {M' : MS}  {r : Int32}  (hf : f_X6_readsOften M = some (r, M')) : MC l yX6_readsOften wsX6_readsOften 2 45 D cI cR A [.ref (ad 0)] (mws cI ad M) (some (.int r)) (mws cI ad M') := by
  refine Met.ofW (cc := cX6_readsOften) (maxL := 1) (ret := (some .boolean)) (by decide) rfl ?_
  intro p e s m args below meth c s₁ B hml hv
  obtain ⟨rfl, hw⟩ := q_start hv
  have hx := B.exec
  have hb := B.bytes
  have hr := B.returns
  have hts := atoms_spec (ws := wsX6_readsOften) B.pre
  have hown : s.vm.findClass RX6 = some m.cls := findClass_of_methodNamed B.named
  have hlocks := B.notSynchronized
  have hiX6 : ∀ w ∈ wsX60, w ∈ wsX6_readsOften := by decide +kernel
  have hl := lv_entry ([.ref (ad 0)]) (n := 1) (Nat.le_of_ble_eq_true rfl)
  rw [lg_entry_eq]
  generalize (lg_sl ([.ref (ad 0)]) ++ List.replicate (1 - (lg_sl ([.ref (ad 0)])).length) Slot.unset).toArray = ls at hl ⊢
  have hl : lv_has ls 1 [(0, .ref (ad 0))] := hl
  unfold f_X6_readsOften at hf
  obtain ⟨H, eH⟩ : ∃ H, H = s.heap := ⟨_, rfl⟩
  obtain ⟨locs, eL⟩ : ∃ L : List Loc, L = [] := ⟨_, rfl⟩
  rw [← eH, ← eL] at hw ⊢
  clear eH eL
  have B55 : ∀ (M : MS) (H : Heap) (locs : List Loc) (ls : Array Slot), f_X6_readsOften_b55 M = some (r, M') → WH D cI cR A (mws cI ad M) s H locs → lv_has ls 1 [(0, .ref (ad 0))] → W p l e (headSpec wsX6_readsOften ({ frames := 2, cells := 0, slots := 0, locals := 45 })).room s m ([.ref (ad 0)] : List Value).toArray below meth c H locs 0 0 (MQ below (QV (some (.int r)) D A (mws cI ad M')) (([.ref (ad 0)] : List Value)).toArray s 0 0 A) (F0 m 55 ls []) := by
    intro M H locs ls hf hw hl
    unfold f_X6_readsOften_b55 at hf
    refine lv_aload_n hx hb dX6_readsOften_55 rfl (lv_at hl 0 rfl) ?_
    refine q_get hx hb hts hiX6 hown hw 0 ma_0 rfl 9 (by decide) (hts (.fieldLink RX6 130 "LaceRanksModel" "second" "I") (by decide +kernel)) rfl dX6_readsOften_56 ?_
    refine lv_iconst (v := (-1)) hx hb dX6_readsOften_59 (by decide) ?_
    refine lv_icmp_eq (tgt := 67) hx hb dX6_readsOften_60 (by decide) (fun hc => ?_) (fun hc => ?_)
    · have hf := iteT hf hc
      refine lv_iconst (v := 0) hx hb dX6_readsOften_67 (by decide) ?_
      cases hf
      exact q_zret hx hb hr nb_0 hlocks hw dX6_readsOften_68
    · have hf := iteF hf hc
      refine lv_iconst (v := 1) hx hb dX6_readsOften_63 (by decide) ?_
      refine lv_goto (tgt := 68) hx hb dX6_readsOften_64 (by decide) ?_
      cases hf
      exact q_zret hx hb hr nb_1 hlocks hw dX6_readsOften_68
  have B52 : ∀ (M : MS) (y0 : Int32) (H : Heap) (locs : List Loc) (ls : Array Slot), f_X6_readsOften_b52 M y0 = some (r, M') → WH D cI cR A (mws cI ad M) s H locs → lv_has ls 1 [(0, .ref (ad 0))] → W p l e (headSpec wsX6_readsOften ({ frames := 2, cells := 0, slots := 0, locals := 45 })).room s m ([.ref (ad 0)] : List Value).toArray below meth c H locs 0 0 (MQ below (QV (some (.int r)) D A (mws cI ad M')) (([.ref (ad 0)] : List Value)).toArray s 0 0 A) (F0 m 52 ls [.int y0, .ref (ad 0)]) := by
    intro M y0 H locs ls hf hw hl
    unfold f_X6_readsOften_b52 at hf
    obtain ⟨M1, hM1, hf⟩ := nmE hf
    refine q_put (ty := .int) hx hb hts hiX6 tyX6 tyX6_ok nmX6 hown hw 0 ma_0 rfl 9 (by decide) (hts (.fieldLink RX6 130 "LaceRanksModel" "second" "I") (by decide +kernel)) rfl (by decide +kernel) rfl rfl (Nat.le_of_ble_eq_true rfl) dX6_readsOften_52 (ms_0_9.trans (congrArg (fun z => (mws cI ad z)) hM1.symm)) (fun H locs hw => ?_)
    exact B55 M1 H locs ls hf hw (lv_sub hl [0] rfl)
  have B48 : ∀ (M : MS) (H : Heap) (locs : List Loc) (ls : Array Slot), f_X6_readsOften_b48 M = some (r, M') → WH D cI cR A (mws cI ad M) s H locs → lv_has ls 1 [(0, .ref (ad 0))] → W p l e (headSpec wsX6_readsOften ({ frames := 2, cells := 0, slots := 0, locals := 45 })).room s m ([.ref (ad 0)] : List Value).toArray below meth c H locs 0 0 (MQ below (QV (some (.int r)) D A (mws cI ad M')) (([.ref (ad 0)] : List Value)).toArray s 0 0 A) (F0 m 48 ls [.ref (ad 0)]) := by
    intro M H locs ls hf hw hl
    unfold f_X6_readsOften_b48 at hf
    refine lv_aload_n hx hb dX6_readsOften_48 rfl (lv_at hl 0 rfl) ?_
    refine q_get hx hb hts hiX6 hown hw 0 ma_0 rfl 9 (by decide) (hts (.fieldLink RX6 130 "LaceRanksModel" "second" "I") (by decide +kernel)) rfl dX6_readsOften_49 ?_
    exact B52 M (M.1 3 7) H locs ls hf hw (lv_sub hl [0] rfl)
  refine lv_aload_n hx hb dX6_readsOften_0 rfl (lv_at hl 0 rfl) ?_
  refine lv_iconst (v := 1) hx hb dX6_readsOften_1 (by decide) ?_
  obtain ⟨M1, hM1, hf⟩ := nmE hf
  refine q_put (ty := .int) hx hb hts hiX6 tyX6 tyX6_ok nmX6 hown hw 0 ma_0 rfl 9 (by decide) (hts (.fieldLink RX6 130 "LaceRanksModel" "second" "I") (by decide +kernel)) rfl (by decide +kernel) rfl rfl (Nat.le_of_ble_eq_true rfl) dX6_readsOften_2 (ms_0_9.trans (congrArg (fun z => (mws cI ad z)) hM1.symm)) (fun H locs hw => ?_)
  refine lv_aload_n hx hb dX6_readsOften_5 rfl (lv_at hl 0 rfl) ?_
  refine lv_bipush (v := 42) hx hb dX6_readsOften_6 (by decide) ?_
  obtain ⟨r2, M3, hr3, hf⟩ := bnd2S hf
  refine q_callV (rest := []) (st1 := [.int r2]) [.int 42] ⟨hx, hb, hml, hown, hts⟩ (c_X6_takes hr3) (cwV 1 hts gX6_readsOften_X6_takes rfl rfl rfl (by decide +kernel) ⟨Nat.le_of_ble_eq_true rfl, Nat.le_of_ble_eq_true rfl⟩) hw ma_0 rfl rfl hl.1 rfl (Nat.le_of_ble_eq_true rfl) dX6_readsOften_8 ⟨Nat.zero_le _, Nat.zero_le _⟩ rfl (fun H locs hw => ?_)
  refine lv_if_eq (tgt := 55) hx hb dX6_readsOften_11 (by decide) (fun hc => ?_) (fun hc => ?_)
  · have hf := iteT hf hc
    exact B55 M3 H locs ls hf hw (lv_sub hl [0] rfl)
  · have hf := iteF hf hc
    refine lv_aload_n hx hb dX6_readsOften_14 rfl (lv_at hl 0 rfl) ?_
    refine lv_aload_n hx hb dX6_readsOften_15 rfl (lv_at hl 0 rfl) ?_
    refine lv_iconst (v := 1) hx hb dX6_readsOften_16 (by decide) ?_
    refine lv_bipush (v := 9) hx hb dX6_readsOften_17 (by decide) ?_
    obtain ⟨r4, M5, hr5, hf⟩ := bnd2S hf
    refine q_callV (rest := [.ref (ad 0)]) (st1 := [.int r4, .ref (ad 0)]) [.int 1, .int 9] ⟨hx, hb, hml, hown, hts⟩ (c_X6_figure hr5) (cwV 2 hts gX6_readsOften_X6_figure rfl rfl rfl (by decide +kernel) ⟨Nat.le_of_ble_eq_true rfl, Nat.le_of_ble_eq_true rfl⟩) hw ma_0 rfl rfl hl.1 rfl (Nat.le_of_ble_eq_true rfl) dX6_readsOften_19 ⟨Nat.zero_le _, Nat.zero_le _⟩ rfl (fun H locs hw => ?_)
    obtain ⟨M6, hM6, hf⟩ := nmE hf
    refine q_put (ty := .int) hx hb hts hiX6 tyX6 tyX6_ok nmX6 hown hw 0 ma_0 rfl 9 (by decide) (hts (.fieldLink RX6 130 "LaceRanksModel" "second" "I") (by decide +kernel)) rfl (by decide +kernel) rfl rfl (Nat.le_of_ble_eq_true rfl) dX6_readsOften_22 (ms_0_9.trans (congrArg (fun z => (mws cI ad z)) hM6.symm)) (fun H locs hw => ?_)
    refine lv_aload_n hx hb dX6_readsOften_25 rfl (lv_at hl 0 rfl) ?_
    refine lv_aload_n hx hb dX6_readsOften_26 rfl (lv_at hl 0 rfl) ?_
    refine q_get hx hb hts hiX6 hown hw 0 ma_0 rfl 9 (by decide) (hts (.fieldLink RX6 130 "LaceRanksModel" "second" "I") (by decide +kernel)) rfl dX6_readsOften_27 ?_
    refine lv_iconst (v := 1) hx hb dX6_readsOften_30 (by decide) ?_
    refine lv_icmp_ne (tgt := 48) hx hb dX6_readsOften_31 (by decide) (fun hc => ?_) (fun hc => ?_)
    · have hf := iteF hf hc
      exact B48 M6 H locs ls hf hw (lv_sub hl [0] rfl)
    · have hf := iteT hf hc
      refine lv_aload_n hx hb dX6_readsOften_34 rfl (lv_at hl 0 rfl) ?_
      refine lv_bipush (v := 48) hx hb dX6_readsOften_35 (by decide) ?_
      obtain ⟨r7, M8, hr8, hf⟩ := bnd2S hf
      refine q_callV (rest := [.ref (ad 0)]) (st1 := [.int r7, .ref (ad 0)]) [.int 48] ⟨hx, hb, hml, hown, hts⟩ (c_X6_takes hr8) (cwV 1 hts gX6_readsOften_X6_takes rfl rfl rfl (by decide +kernel) ⟨Nat.le_of_ble_eq_true rfl, Nat.le_of_ble_eq_true rfl⟩) hw ma_0 rfl rfl hl.1 rfl (Nat.le_of_ble_eq_true rfl) dX6_readsOften_37 ⟨Nat.zero_le _, Nat.zero_le _⟩ rfl (fun H locs hw => ?_)
      refine lv_if_eq (tgt := 48) hx hb dX6_readsOften_40 (by decide) (fun hc => ?_) (fun hc => ?_)
      · have hf := iteT hf hc
        exact B48 M8 H locs ls hf hw (lv_sub hl [0] rfl)
      · have hf := iteF hf hc
        refine lv_bipush (v := 10) hx hb dX6_readsOften_43 (by decide) ?_
        refine lv_goto (tgt := 52) hx hb dX6_readsOften_45 (by decide) ?_
        exact B52 M8 10 H locs ls hf hw (lv_sub hl [0] rfl)

def f_X6_readsPart_b77    (M : MS) : Option (Int32 × MS) := bnd2 (f_X6_figure M 0 9) (fun r1 M2 => nm (upMS M2 3 6 r1) (fun M3 => (if (M3.1 3 6) = (-1) then some (0, M3) else some (1, M3))))
def f_X6_readsPart_b177    (M : MS) (y0 : Int32) : Option (Int32 × MS) := nm (upMS M 3 7 y0) (fun M1 => (if (M1.1 3 7) = (-1) then some (0, M1) else some (1, M1)))
def f_X6_readsPart_b176    (M : MS) : Option (Int32 × MS) := f_X6_readsPart_b177 M (-1)
def f_X6_readsPart_b170    (M : MS) (y0 : Int32) (y1 : Int32) : Option (Int32 × MS) := bnd2 (f_X6_figure M y1 y0) (fun r1 M2 => f_X6_readsPart_b177 M2 r1)
def f_X6_readsPart_b132    (M : MS) (y0 : Int32) : Option (Int32 × MS) := nm (upMS M 3 6 y0) (fun M1 => (if (M1.1 3 6) = (-1) then f_X6_readsPart_b176 M1 else bnd2 (f_X6_takes M1 62) (fun r2 M3 => (if r2 = 0 then f_X6_readsPart_b176 M3 else (if (M3.1 3 5) = 113 then f_X6_readsPart_b170 M3 2 0 else f_X6_readsPart_b170 M3 9 0)))))
def f_X6_readsPart_b121    (M : MS) : Option (Int32 × MS) := bnd2 (f_X6_figure M 0 9) (fun r1 M2 => f_X6_readsPart_b132 M2 r1)
def f_X6_readsPart (M : MS)   : Option (Int32 × MS) := bnd (f_X6_sign M) (fun r1 => nm (upMS M 3 5 r1) (fun M2 => bnd2 (f_X6_takes M2 94) (fun r3 M4 => (if r3 = 0 then bnd2 (f_X6_takes M4 111) (fun r5 M6 => (if r5 = 0 then bnd2 (f_X6_takes M6 109) (fun r7 M8 => (if r7 = 0 then bnd2 (f_X6_takes M8 36) (fun r9 M10 => (if r9 = 0 then bnd2 (f_X6_takes M10 113) (fun r11 M12 => (if r11 = 0 then bnd2 (f_X6_takes M12 108) (fun r13 M14 => (if r13 = 0 then f_X6_readsPart_b132 M14 (-1) else f_X6_readsPart_b121 M14)) else f_X6_readsPart_b121 M12)) else f_X6_readsPart_b77 M10)) else f_X6_readsPart_b77 M8)) else bnd2 (f_X6_figure M6 0 2) (fun r15 M16 => nm (upMS M16 3 6 r15) (fun M17 => (if (M17.1 3 6) = (-1) then some (0, M17) else bnd2 (f_X6_readsOften M17) (fun r18 M19 => (if r18 = 0 then some (0, M19) else some (1, M19)))))))) else some (1, M4)))))
set_option maxHeartbeats 4000000 in
set_option maxRecDepth 100000 in
theorem c_X6_readsPart {l : Launch} {D : va_G} {cI cR : ClassId} {ad : Nat → Nat} {A : Nat → Prop} {M : MS} {M' : MS}  {r : Int32}  (hf : f_X6_readsPart M = some (r, M')) : MC l yX6_readsPart wsX6_readsPart 3 65 D cI cR A [.ref (ad 0)] (mws cI ad M) (some (.int r)) (mws cI ad M') := by
  refine Met.ofW (cc := cX6_readsPart) (maxL := 1) (ret := (some .boolean)) (by decide) rfl ?_
  intro p e s m args below meth c s₁ B hml hv
  obtain ⟨rfl, hw⟩ := q_start hv
  have hx := B.exec
  have hb := B.bytes
  have hr := B.returns
  have hts := atoms_spec (ws := wsX6_readsPart) B.pre
  have hown : s.vm.findClass RX6 = some m.cls := findClass_of_methodNamed B.named
  have hlocks := B.notSynchronized
  have hiX6 : ∀ w ∈ wsX60, w ∈ wsX6_readsPart := by decide +kernel
  have hl := lv_entry ([.ref (ad 0)]) (n := 1) (Nat.le_of_ble_eq_true rfl)
  rw [lg_entry_eq]
  generalize (lg_sl ([.ref (ad 0)]) ++ List.replicate (1 - (lg_sl ([.ref (ad 0)])).length) Slot.unset).toArray = ls at hl ⊢
  have hl : lv_has ls 1 [(0, .ref (ad 0))] := hl
  unfold f_X6_readsPart at hf
  obtain ⟨H, eH⟩ : ∃ H, H = s.heap := ⟨_, rfl⟩
  obtain ⟨locs, eL⟩ : ∃ L : List Loc, L = [] := ⟨_, rfl⟩
  rw [← eH, ← eL] at hw ⊢
  clear eH eL
  have B77 : ∀ (M : MS) (H : Heap) (locs : List Loc) (ls : Array Slot), f_X6_readsPart_b77 M = some (r, M') → WH D cI cR A (mws cI ad M) s H locs → lv_has ls 1 [(0, .ref (ad 0))] → W p l e (headSpec wsX6_readsPart ({ frames := 3, cells := 0, slots := 0, locals := 65 })).room s m ([.ref (ad 0)] : List Value).toArray below meth c H locs 0 0 (MQ below (QV (some (.int r)) D A (mws cI ad M')) (([.ref (ad 0)] : List Value)).toArray s 0 0 A) (F0 m 77 ls []) := by
    intro M H locs ls hf hw hl
    unfold f_X6_readsPart_b77 at hf
    refine lv_aload_n hx hb dX6_readsPart_77 rfl (lv_at hl 0 rfl) ?_
    refine lv_aload_n hx hb dX6_readsPart_78 rfl (lv_at hl 0 rfl) ?_
    refine lv_iconst (v := 0) hx hb dX6_readsPart_79 (by decide) ?_
    refine lv_bipush (v := 9) hx hb dX6_readsPart_80 (by decide) ?_
    obtain ⟨r1, M2, hr2, hf⟩ := bnd2S hf
    refine q_callV (rest := [.ref (ad 0)]) (st1 := [.int r1, .ref (ad 0)]) [.int 0, .int 9] ⟨hx, hb, hml, hown, hts⟩ (c_X6_figure hr2) (cwV 2 hts gX6_readsPart_X6_figure rfl rfl rfl (by decide +kernel) ⟨Nat.le_of_ble_eq_true rfl, Nat.le_of_ble_eq_true rfl⟩) hw ma_0 rfl rfl hl.1 rfl (Nat.le_of_ble_eq_true rfl) dX6_readsPart_82 ⟨Nat.zero_le _, Nat.zero_le _⟩ rfl (fun H locs hw => ?_)
    obtain ⟨M3, hM3, hf⟩ := nmE hf
    refine q_put (ty := .int) hx hb hts hiX6 tyX6 tyX6_ok nmX6 hown hw 0 ma_0 rfl 8 (by decide) (hts (.fieldLink RX6 142 "LaceRanksModel" "first" "I") (by decide +kernel)) rfl (by decide +kernel) rfl rfl (Nat.le_of_ble_eq_true rfl) dX6_readsPart_85 (ms_0_8.trans (congrArg (fun z => (mws cI ad z)) hM3.symm)) (fun H locs hw => ?_)
    refine lv_aload_n hx hb dX6_readsPart_88 rfl (lv_at hl 0 rfl) ?_
    refine q_get hx hb hts hiX6 hown hw 0 ma_0 rfl 8 (by decide) (hts (.fieldLink RX6 142 "LaceRanksModel" "first" "I") (by decide +kernel)) rfl dX6_readsPart_89 ?_
    refine lv_iconst (v := (-1)) hx hb dX6_readsPart_92 (by decide) ?_
    refine lv_icmp_eq (tgt := 100) hx hb dX6_readsPart_93 (by decide) (fun hc => ?_) (fun hc => ?_)
    · have hf := iteT hf hc
      refine lv_iconst (v := 0) hx hb dX6_readsPart_100 (by decide) ?_
      cases hf
      exact q_zret hx hb hr nb_0 hlocks hw dX6_readsPart_101
    · have hf := iteF hf hc
      refine lv_iconst (v := 1) hx hb dX6_readsPart_96 (by decide) ?_
      refine lv_goto (tgt := 101) hx hb dX6_readsPart_97 (by decide) ?_
      cases hf
      exact q_zret hx hb hr nb_1 hlocks hw dX6_readsPart_101
  have B177 : ∀ (M : MS) (y0 : Int32) (H : Heap) (locs : List Loc) (ls : Array Slot), f_X6_readsPart_b177 M y0 = some (r, M') → WH D cI cR A (mws cI ad M) s H locs → lv_has ls 1 [(0, .ref (ad 0))] → W p l e (headSpec wsX6_readsPart ({ frames := 3, cells := 0, slots := 0, locals := 65 })).room s m ([.ref (ad 0)] : List Value).toArray below meth c H locs 0 0 (MQ below (QV (some (.int r)) D A (mws cI ad M')) (([.ref (ad 0)] : List Value)).toArray s 0 0 A) (F0 m 177 ls [.int y0, .ref (ad 0)]) := by
    intro M y0 H locs ls hf hw hl
    unfold f_X6_readsPart_b177 at hf
    obtain ⟨M1, hM1, hf⟩ := nmE hf
    refine q_put (ty := .int) hx hb hts hiX6 tyX6 tyX6_ok nmX6 hown hw 0 ma_0 rfl 9 (by decide) (hts (.fieldLink RX6 130 "LaceRanksModel" "second" "I") (by decide +kernel)) rfl (by decide +kernel) rfl rfl (Nat.le_of_ble_eq_true rfl) dX6_readsPart_177 (ms_0_9.trans (congrArg (fun z => (mws cI ad z)) hM1.symm)) (fun H locs hw => ?_)
    refine lv_aload_n hx hb dX6_readsPart_180 rfl (lv_at hl 0 rfl) ?_
    refine q_get hx hb hts hiX6 hown hw 0 ma_0 rfl 9 (by decide) (hts (.fieldLink RX6 130 "LaceRanksModel" "second" "I") (by decide +kernel)) rfl dX6_readsPart_181 ?_
    refine lv_iconst (v := (-1)) hx hb dX6_readsPart_184 (by decide) ?_
    refine lv_icmp_eq (tgt := 192) hx hb dX6_readsPart_185 (by decide) (fun hc => ?_) (fun hc => ?_)
    · have hf := iteT hf hc
      refine lv_iconst (v := 0) hx hb dX6_readsPart_192 (by decide) ?_
      cases hf
      exact q_zret hx hb hr nb_0 hlocks hw dX6_readsPart_193
    · have hf := iteF hf hc
      refine lv_iconst (v := 1) hx hb dX6_readsPart_188 (by decide) ?_
      refine lv_goto (tgt := 193) hx hb dX6_readsPart_189 (by decide) ?_
      cases hf
      exact q_zret hx hb hr nb_1 hlocks hw dX6_readsPart_193
  have B176 : ∀ (M : MS) (H : Heap) (locs : List Loc) (ls : Array Slot), f_X6_readsPart_b176 M = some (r, M') → WH D cI cR A (mws cI ad M) s H locs → lv_has ls 1 [(0, .ref (ad 0))] → W p l e (headSpec wsX6_readsPart ({ frames := 3, cells := 0, slots := 0, locals := 65 })).room s m ([.ref (ad 0)] : List Value).toArray below meth c H locs 0 0 (MQ below (QV (some (.int r)) D A (mws cI ad M')) (([.ref (ad 0)] : List Value)).toArray s 0 0 A) (F0 m 176 ls [.ref (ad 0)]) := by
    intro M H locs ls hf hw hl
    unfold f_X6_readsPart_b176 at hf
    refine lv_iconst (v := (-1)) hx hb dX6_readsPart_176 (by decide) ?_
    exact B177 M (-1) H locs ls hf hw (lv_sub hl [0] rfl)
  have B170 : ∀ (M : MS) (y0 : Int32) (y1 : Int32) (H : Heap) (locs : List Loc) (ls : Array Slot), f_X6_readsPart_b170 M y0 y1 = some (r, M') → WH D cI cR A (mws cI ad M) s H locs → lv_has ls 1 [(0, .ref (ad 0))] → W p l e (headSpec wsX6_readsPart ({ frames := 3, cells := 0, slots := 0, locals := 65 })).room s m ([.ref (ad 0)] : List Value).toArray below meth c H locs 0 0 (MQ below (QV (some (.int r)) D A (mws cI ad M')) (([.ref (ad 0)] : List Value)).toArray s 0 0 A) (F0 m 170 ls [.int y0, .int y1, .ref (ad 0), .ref (ad 0)]) := by
    intro M y0 y1 H locs ls hf hw hl
    unfold f_X6_readsPart_b170 at hf
    obtain ⟨r1, M2, hr2, hf⟩ := bnd2S hf
    refine q_callV (rest := [.ref (ad 0)]) (st1 := [.int r1, .ref (ad 0)]) [.int y1, .int y0] ⟨hx, hb, hml, hown, hts⟩ (c_X6_figure hr2) (cwV 2 hts gX6_readsPart_X6_figure rfl rfl rfl (by decide +kernel) ⟨Nat.le_of_ble_eq_true rfl, Nat.le_of_ble_eq_true rfl⟩) hw ma_0 rfl rfl hl.1 rfl (Nat.le_of_ble_eq_true rfl) dX6_readsPart_170 ⟨Nat.zero_le _, Nat.zero_le _⟩ rfl (fun H locs hw => ?_)
    refine lv_goto (tgt := 177) hx hb dX6_readsPart_173 (by decide) ?_
    exact B177 M2 r1 H locs ls hf hw (lv_sub hl [0] rfl)
  have B132 : ∀ (M : MS) (y0 : Int32) (H : Heap) (locs : List Loc) (ls : Array Slot), f_X6_readsPart_b132 M y0 = some (r, M') → WH D cI cR A (mws cI ad M) s H locs → lv_has ls 1 [(0, .ref (ad 0))] → W p l e (headSpec wsX6_readsPart ({ frames := 3, cells := 0, slots := 0, locals := 65 })).room s m ([.ref (ad 0)] : List Value).toArray below meth c H locs 0 0 (MQ below (QV (some (.int r)) D A (mws cI ad M')) (([.ref (ad 0)] : List Value)).toArray s 0 0 A) (F0 m 132 ls [.int y0, .ref (ad 0)]) := by
    intro M y0 H locs ls hf hw hl
    unfold f_X6_readsPart_b132 at hf
    obtain ⟨M1, hM1, hf⟩ := nmE hf
    refine q_put (ty := .int) hx hb hts hiX6 tyX6 tyX6_ok nmX6 hown hw 0 ma_0 rfl 8 (by decide) (hts (.fieldLink RX6 142 "LaceRanksModel" "first" "I") (by decide +kernel)) rfl (by decide +kernel) rfl rfl (Nat.le_of_ble_eq_true rfl) dX6_readsPart_132 (ms_0_8.trans (congrArg (fun z => (mws cI ad z)) hM1.symm)) (fun H locs hw => ?_)
    refine lv_aload_n hx hb dX6_readsPart_135 rfl (lv_at hl 0 rfl) ?_
    refine lv_aload_n hx hb dX6_readsPart_136 rfl (lv_at hl 0 rfl) ?_
    refine q_get hx hb hts hiX6 hown hw 0 ma_0 rfl 8 (by decide) (hts (.fieldLink RX6 142 "LaceRanksModel" "first" "I") (by decide +kernel)) rfl dX6_readsPart_137 ?_
    refine lv_iconst (v := (-1)) hx hb dX6_readsPart_140 (by decide) ?_
    refine lv_icmp_eq (tgt := 176) hx hb dX6_readsPart_141 (by decide) (fun hc => ?_) (fun hc => ?_)
    · have hf := iteT hf hc
      exact B176 M1 H locs ls hf hw (lv_sub hl [0] rfl)
    · have hf := iteF hf hc
      refine lv_aload_n hx hb dX6_readsPart_144 rfl (lv_at hl 0 rfl) ?_
      refine lv_bipush (v := 62) hx hb dX6_readsPart_145 (by decide) ?_
      obtain ⟨r2, M3, hr3, hf⟩ := bnd2S hf
      refine q_callV (rest := [.ref (ad 0)]) (st1 := [.int r2, .ref (ad 0)]) [.int 62] ⟨hx, hb, hml, hown, hts⟩ (c_X6_takes hr3) (cwV 1 hts gX6_readsPart_X6_takes rfl rfl rfl (by decide +kernel) ⟨Nat.le_of_ble_eq_true rfl, Nat.le_of_ble_eq_true rfl⟩) hw ma_0 rfl rfl hl.1 rfl (Nat.le_of_ble_eq_true rfl) dX6_readsPart_147 ⟨Nat.zero_le _, Nat.zero_le _⟩ rfl (fun H locs hw => ?_)
      refine lv_if_eq (tgt := 176) hx hb dX6_readsPart_150 (by decide) (fun hc => ?_) (fun hc => ?_)
      · have hf := iteT hf hc
        exact B176 M3 H locs ls hf hw (lv_sub hl [0] rfl)
      · have hf := iteF hf hc
        refine lv_aload_n hx hb dX6_readsPart_153 rfl (lv_at hl 0 rfl) ?_
        refine lv_iconst (v := 0) hx hb dX6_readsPart_154 (by decide) ?_
        refine lv_aload_n hx hb dX6_readsPart_155 rfl (lv_at hl 0 rfl) ?_
        refine q_get hx hb hts hiX6 hown hw 0 ma_0 rfl 7 (by decide) (hts (.fieldLink RX6 139 "LaceRanksModel" "part" "I") (by decide +kernel)) rfl dX6_readsPart_156 ?_
        refine lv_bipush (v := 113) hx hb dX6_readsPart_159 (by decide) ?_
        refine lv_icmp_ne (tgt := 168) hx hb dX6_readsPart_161 (by decide) (fun hc => ?_) (fun hc => ?_)
        · have hf := iteF hf hc
          refine lv_bipush (v := 9) hx hb dX6_readsPart_168 (by decide) ?_
          exact B170 M3 9 0 H locs ls hf hw (lv_sub hl [0] rfl)
        · have hf := iteT hf hc
          refine lv_iconst (v := 2) hx hb dX6_readsPart_164 (by decide) ?_
          refine lv_goto (tgt := 170) hx hb dX6_readsPart_165 (by decide) ?_
          exact B170 M3 2 0 H locs ls hf hw (lv_sub hl [0] rfl)
  have B121 : ∀ (M : MS) (H : Heap) (locs : List Loc) (ls : Array Slot), f_X6_readsPart_b121 M = some (r, M') → WH D cI cR A (mws cI ad M) s H locs → lv_has ls 1 [(0, .ref (ad 0))] → W p l e (headSpec wsX6_readsPart ({ frames := 3, cells := 0, slots := 0, locals := 65 })).room s m ([.ref (ad 0)] : List Value).toArray below meth c H locs 0 0 (MQ below (QV (some (.int r)) D A (mws cI ad M')) (([.ref (ad 0)] : List Value)).toArray s 0 0 A) (F0 m 121 ls [.ref (ad 0)]) := by
    intro M H locs ls hf hw hl
    unfold f_X6_readsPart_b121 at hf
    refine lv_aload_n hx hb dX6_readsPart_121 rfl (lv_at hl 0 rfl) ?_
    refine lv_iconst (v := 0) hx hb dX6_readsPart_122 (by decide) ?_
    refine lv_bipush (v := 9) hx hb dX6_readsPart_123 (by decide) ?_
    obtain ⟨r1, M2, hr2, hf⟩ := bnd2S hf
    refine q_callV (rest := [.ref (ad 0)]) (st1 := [.int r1, .ref (ad 0)]) [.int 0, .int 9] ⟨hx, hb, hml, hown, hts⟩ (c_X6_figure hr2) (cwV 2 hts gX6_readsPart_X6_figure rfl rfl rfl (by decide +kernel) ⟨Nat.le_of_ble_eq_true rfl, Nat.le_of_ble_eq_true rfl⟩) hw ma_0 rfl rfl hl.1 rfl (Nat.le_of_ble_eq_true rfl) dX6_readsPart_125 ⟨Nat.zero_le _, Nat.zero_le _⟩ rfl (fun H locs hw => ?_)
    refine lv_goto (tgt := 132) hx hb dX6_readsPart_128 (by decide) ?_
    exact B132 M2 r1 H locs ls hf hw (lv_sub hl [0] rfl)
  refine lv_aload_n hx hb dX6_readsPart_0 rfl (lv_at hl 0 rfl) ?_
  refine lv_aload_n hx hb dX6_readsPart_1 rfl (lv_at hl 0 rfl) ?_
  obtain ⟨r1, hr1, hf⟩ := bndS hf
  refine q_callV (rest := [.ref (ad 0)]) (st1 := [.int r1, .ref (ad 0)]) [] ⟨hx, hb, hml, hown, hts⟩ (c_X6_sign hr1) (cwV 0 hts gX6_readsPart_X6_sign rfl rfl rfl (by decide +kernel) ⟨Nat.le_of_ble_eq_true rfl, Nat.le_of_ble_eq_true rfl⟩) hw ma_0 rfl rfl hl.1 rfl (Nat.le_of_ble_eq_true rfl) dX6_readsPart_2 ⟨Nat.zero_le _, Nat.zero_le _⟩ rfl (fun H locs hw => ?_)
  obtain ⟨M2, hM2, hf⟩ := nmE hf
  refine q_put (ty := .int) hx hb hts hiX6 tyX6 tyX6_ok nmX6 hown hw 0 ma_0 rfl 7 (by decide) (hts (.fieldLink RX6 139 "LaceRanksModel" "part" "I") (by decide +kernel)) rfl (by decide +kernel) rfl rfl (Nat.le_of_ble_eq_true rfl) dX6_readsPart_5 (ms_0_7.trans (congrArg (fun z => (mws cI ad z)) hM2.symm)) (fun H locs hw => ?_)
  refine lv_aload_n hx hb dX6_readsPart_8 rfl (lv_at hl 0 rfl) ?_
  refine lv_bipush (v := 94) hx hb dX6_readsPart_9 (by decide) ?_
  obtain ⟨r3, M4, hr4, hf⟩ := bnd2S hf
  refine q_callV (rest := []) (st1 := [.int r3]) [.int 94] ⟨hx, hb, hml, hown, hts⟩ (c_X6_takes hr4) (cwV 1 hts gX6_readsPart_X6_takes rfl rfl rfl (by decide +kernel) ⟨Nat.le_of_ble_eq_true rfl, Nat.le_of_ble_eq_true rfl⟩) hw ma_0 rfl rfl hl.1 rfl (Nat.le_of_ble_eq_true rfl) dX6_readsPart_11 ⟨Nat.zero_le _, Nat.zero_le _⟩ rfl (fun H locs hw => ?_)
  refine lv_if_eq (tgt := 19) hx hb dX6_readsPart_14 (by decide) (fun hc => ?_) (fun hc => ?_)
  · have hf := iteT hf hc
    refine lv_aload_n hx hb dX6_readsPart_19 rfl (lv_at hl 0 rfl) ?_
    refine lv_bipush (v := 111) hx hb dX6_readsPart_20 (by decide) ?_
    obtain ⟨r5, M6, hr6, hf⟩ := bnd2S hf
    refine q_callV (rest := []) (st1 := [.int r5]) [.int 111] ⟨hx, hb, hml, hown, hts⟩ (c_X6_takes hr6) (cwV 1 hts gX6_readsPart_X6_takes rfl rfl rfl (by decide +kernel) ⟨Nat.le_of_ble_eq_true rfl, Nat.le_of_ble_eq_true rfl⟩) hw ma_0 rfl rfl hl.1 rfl (Nat.le_of_ble_eq_true rfl) dX6_readsPart_22 ⟨Nat.zero_le _, Nat.zero_le _⟩ rfl (fun H locs hw => ?_)
    refine lv_if_eq (tgt := 59) hx hb dX6_readsPart_25 (by decide) (fun hc => ?_) (fun hc => ?_)
    · have hf := iteT hf hc
      refine lv_aload_n hx hb dX6_readsPart_59 rfl (lv_at hl 0 rfl) ?_
      refine lv_bipush (v := 109) hx hb dX6_readsPart_60 (by decide) ?_
      obtain ⟨r7, M8, hr8, hf⟩ := bnd2S hf
      refine q_callV (rest := []) (st1 := [.int r7]) [.int 109] ⟨hx, hb, hml, hown, hts⟩ (c_X6_takes hr8) (cwV 1 hts gX6_readsPart_X6_takes rfl rfl rfl (by decide +kernel) ⟨Nat.le_of_ble_eq_true rfl, Nat.le_of_ble_eq_true rfl⟩) hw ma_0 rfl rfl hl.1 rfl (Nat.le_of_ble_eq_true rfl) dX6_readsPart_62 ⟨Nat.zero_le _, Nat.zero_le _⟩ rfl (fun H locs hw => ?_)
      refine lv_if_ne (tgt := 77) hx hb dX6_readsPart_65 (by decide) (fun hc => ?_) (fun hc => ?_)
      · have hf := iteF hf hc
        exact B77 M8 H locs ls hf hw (lv_sub hl [0] rfl)
      · have hf := iteT hf hc
        refine lv_aload_n hx hb dX6_readsPart_68 rfl (lv_at hl 0 rfl) ?_
        refine lv_bipush (v := 36) hx hb dX6_readsPart_69 (by decide) ?_
        obtain ⟨r9, M10, hr10, hf⟩ := bnd2S hf
        refine q_callV (rest := []) (st1 := [.int r9]) [.int 36] ⟨hx, hb, hml, hown, hts⟩ (c_X6_takes hr10) (cwV 1 hts gX6_readsPart_X6_takes rfl rfl rfl (by decide +kernel) ⟨Nat.le_of_ble_eq_true rfl, Nat.le_of_ble_eq_true rfl⟩) hw ma_0 rfl rfl hl.1 rfl (Nat.le_of_ble_eq_true rfl) dX6_readsPart_71 ⟨Nat.zero_le _, Nat.zero_le _⟩ rfl (fun H locs hw => ?_)
        refine lv_if_eq (tgt := 102) hx hb dX6_readsPart_74 (by decide) (fun hc => ?_) (fun hc => ?_)
        · have hf := iteT hf hc
          refine lv_aload_n hx hb dX6_readsPart_102 rfl (lv_at hl 0 rfl) ?_
          refine lv_aload_n hx hb dX6_readsPart_103 rfl (lv_at hl 0 rfl) ?_
          refine lv_bipush (v := 113) hx hb dX6_readsPart_104 (by decide) ?_
          obtain ⟨r11, M12, hr12, hf⟩ := bnd2S hf
          refine q_callV (rest := [.ref (ad 0)]) (st1 := [.int r11, .ref (ad 0)]) [.int 113] ⟨hx, hb, hml, hown, hts⟩ (c_X6_takes hr12) (cwV 1 hts gX6_readsPart_X6_takes rfl rfl rfl (by decide +kernel) ⟨Nat.le_of_ble_eq_true rfl, Nat.le_of_ble_eq_true rfl⟩) hw ma_0 rfl rfl hl.1 rfl (Nat.le_of_ble_eq_true rfl) dX6_readsPart_106 ⟨Nat.zero_le _, Nat.zero_le _⟩ rfl (fun H locs hw => ?_)
          refine lv_if_ne (tgt := 121) hx hb dX6_readsPart_109 (by decide) (fun hc => ?_) (fun hc => ?_)
          · have hf := iteF hf hc
            exact B121 M12 H locs ls hf hw (lv_sub hl [0] rfl)
          · have hf := iteT hf hc
            refine lv_aload_n hx hb dX6_readsPart_112 rfl (lv_at hl 0 rfl) ?_
            refine lv_bipush (v := 108) hx hb dX6_readsPart_113 (by decide) ?_
            obtain ⟨r13, M14, hr14, hf⟩ := bnd2S hf
            refine q_callV (rest := [.ref (ad 0)]) (st1 := [.int r13, .ref (ad 0)]) [.int 108] ⟨hx, hb, hml, hown, hts⟩ (c_X6_takes hr14) (cwV 1 hts gX6_readsPart_X6_takes rfl rfl rfl (by decide +kernel) ⟨Nat.le_of_ble_eq_true rfl, Nat.le_of_ble_eq_true rfl⟩) hw ma_0 rfl rfl hl.1 rfl (Nat.le_of_ble_eq_true rfl) dX6_readsPart_115 ⟨Nat.zero_le _, Nat.zero_le _⟩ rfl (fun H locs hw => ?_)
            refine lv_if_eq (tgt := 131) hx hb dX6_readsPart_118 (by decide) (fun hc => ?_) (fun hc => ?_)
            · have hf := iteT hf hc
              refine lv_iconst (v := (-1)) hx hb dX6_readsPart_131 (by decide) ?_
              exact B132 M14 (-1) H locs ls hf hw (lv_sub hl [0] rfl)
            · have hf := iteF hf hc
              exact B121 M14 H locs ls hf hw (lv_sub hl [0] rfl)
        · have hf := iteF hf hc
          exact B77 M10 H locs ls hf hw (lv_sub hl [0] rfl)
    · have hf := iteF hf hc
      refine lv_aload_n hx hb dX6_readsPart_28 rfl (lv_at hl 0 rfl) ?_
      refine lv_aload_n hx hb dX6_readsPart_29 rfl (lv_at hl 0 rfl) ?_
      refine lv_iconst (v := 0) hx hb dX6_readsPart_30 (by decide) ?_
      refine lv_iconst (v := 2) hx hb dX6_readsPart_31 (by decide) ?_
      obtain ⟨r15, M16, hr16, hf⟩ := bnd2S hf
      refine q_callV (rest := [.ref (ad 0)]) (st1 := [.int r15, .ref (ad 0)]) [.int 0, .int 2] ⟨hx, hb, hml, hown, hts⟩ (c_X6_figure hr16) (cwV 2 hts gX6_readsPart_X6_figure rfl rfl rfl (by decide +kernel) ⟨Nat.le_of_ble_eq_true rfl, Nat.le_of_ble_eq_true rfl⟩) hw ma_0 rfl rfl hl.1 rfl (Nat.le_of_ble_eq_true rfl) dX6_readsPart_32 ⟨Nat.zero_le _, Nat.zero_le _⟩ rfl (fun H locs hw => ?_)
      obtain ⟨M17, hM17, hf⟩ := nmE hf
      refine q_put (ty := .int) hx hb hts hiX6 tyX6 tyX6_ok nmX6 hown hw 0 ma_0 rfl 8 (by decide) (hts (.fieldLink RX6 142 "LaceRanksModel" "first" "I") (by decide +kernel)) rfl (by decide +kernel) rfl rfl (Nat.le_of_ble_eq_true rfl) dX6_readsPart_35 (ms_0_8.trans (congrArg (fun z => (mws cI ad z)) hM17.symm)) (fun H locs hw => ?_)
      refine lv_aload_n hx hb dX6_readsPart_38 rfl (lv_at hl 0 rfl) ?_
      refine q_get hx hb hts hiX6 hown hw 0 ma_0 rfl 8 (by decide) (hts (.fieldLink RX6 142 "LaceRanksModel" "first" "I") (by decide +kernel)) rfl dX6_readsPart_39 ?_
      refine lv_iconst (v := (-1)) hx hb dX6_readsPart_42 (by decide) ?_
      refine lv_icmp_eq (tgt := 57) hx hb dX6_readsPart_43 (by decide) (fun hc => ?_) (fun hc => ?_)
      · have hf := iteT hf hc
        refine lv_iconst (v := 0) hx hb dX6_readsPart_57 (by decide) ?_
        cases hf
        exact q_zret hx hb hr nb_0 hlocks hw dX6_readsPart_58
      · have hf := iteF hf hc
        refine lv_aload_n hx hb dX6_readsPart_46 rfl (lv_at hl 0 rfl) ?_
        obtain ⟨r18, M19, hr19, hf⟩ := bnd2S hf
        refine q_callV (rest := []) (st1 := [.int r18]) [] ⟨hx, hb, hml, hown, hts⟩ (c_X6_readsOften hr19) (cwV 0 hts gX6_readsPart_X6_readsOften rfl rfl rfl (by decide +kernel) ⟨Nat.le_of_ble_eq_true rfl, Nat.le_of_ble_eq_true rfl⟩) hw ma_0 rfl rfl hl.1 rfl (Nat.le_of_ble_eq_true rfl) dX6_readsPart_47 ⟨Nat.zero_le _, Nat.zero_le _⟩ rfl (fun H locs hw => ?_)
        refine lv_if_eq (tgt := 57) hx hb dX6_readsPart_50 (by decide) (fun hc => ?_) (fun hc => ?_)
        · have hf := iteT hf hc
          refine lv_iconst (v := 0) hx hb dX6_readsPart_57 (by decide) ?_
          cases hf
          exact q_zret hx hb hr nb_0 hlocks hw dX6_readsPart_58
        · have hf := iteF hf hc
          refine lv_iconst (v := 1) hx hb dX6_readsPart_53 (by decide) ?_
          refine lv_goto (tgt := 58) hx hb dX6_readsPart_54 (by decide) ?_
          cases hf
          exact q_zret hx hb hr nb_1 hlocks hw dX6_readsPart_58
  · have hf := iteF hf hc
    refine lv_iconst (v := 1) hx hb dX6_readsPart_17 (by decide) ?_
    cases hf
    exact q_zret hx hb hr nb_1 hlocks hw dX6_readsPart_18

def f_X6_isCarnival_l5    : Nat → MS → Option (Int32 × MS)
  | 0, _ => none
  | n5 + 1, M => bnd2 (f_X6_readsPart M) (fun r1 M2 => (if r1 = 0 then some (0, M2) else (if (M2.1 3 4) = (M2.1 3 3) then some (1, M2) else bnd2 (f_X6_takes M2 59) (fun r3 M4 => (if r3 = 0 then some (0, M4) else (f_X6_isCarnival_l5 n5) M4)))))
def f_X6_isCarnival (M : MS)   : Option (Int32 × MS) := nm (upMS M 3 4 0) (fun M1 => f_X6_isCarnival_l5 fuelN M1)
set_option maxHeartbeats 4000000 in
set_option maxRecDepth 100000 in
theorem c_X6_isCarnival {l : Launch} {D : va_G} {cI cR : ClassId} {ad : Nat → Nat} {A : Nat → Prop} {M : MS} {M' : MS}  {r : Int32}  (hf : f_X6_isCarnival M = some (r, M')) : MC l yX6_isCarnival wsX6_isCarnival 4 85 D cI cR A [.ref (ad 0)] (mws cI ad M) (some (.int r)) (mws cI ad M') := by
  refine Met.ofW (cc := cX6_isCarnival) (maxL := 1) (ret := (some .boolean)) (by decide) rfl ?_
  intro p e s m args below meth c s₁ B hml hv
  obtain ⟨rfl, hw⟩ := q_start hv
  have hx := B.exec
  have hb := B.bytes
  have hr := B.returns
  have hts := atoms_spec (ws := wsX6_isCarnival) B.pre
  have hown : s.vm.findClass RX6 = some m.cls := findClass_of_methodNamed B.named
  have hlocks := B.notSynchronized
  have hiX6 : ∀ w ∈ wsX60, w ∈ wsX6_isCarnival := by decide +kernel
  have hl := lv_entry ([.ref (ad 0)]) (n := 1) (Nat.le_of_ble_eq_true rfl)
  rw [lg_entry_eq]
  generalize (lg_sl ([.ref (ad 0)]) ++ List.replicate (1 - (lg_sl ([.ref (ad 0)])).length) Slot.unset).toArray = ls at hl ⊢
  have hl : lv_has ls 1 [(0, .ref (ad 0))] := hl
  unfold f_X6_isCarnival at hf
  obtain ⟨H, eH⟩ : ∃ H, H = s.heap := ⟨_, rfl⟩
  obtain ⟨locs, eL⟩ : ∃ L : List Loc, L = [] := ⟨_, rfl⟩
  rw [← eH, ← eL] at hw ⊢
  clear eH eL
  have L5 : ∀ (n5 : Nat) (M : MS) (H : Heap) (locs : List Loc) (ls : Array Slot), f_X6_isCarnival_l5 n5 M = some (r, M') → WH D cI cR A (mws cI ad M) s H locs → lv_has ls 1 [(0, .ref (ad 0))] → W p l e (headSpec wsX6_isCarnival ({ frames := 4, cells := 0, slots := 0, locals := 85 })).room s m ([.ref (ad 0)] : List Value).toArray below meth c H locs 0 0 (MQ below (QV (some (.int r)) D A (mws cI ad M')) (([.ref (ad 0)] : List Value)).toArray s 0 0 A) (F0 m 5 ls []) := by
    intro n5
    induction n5 with
    | zero => intro M H locs ls hf; cases hf
    | succ n5 ih =>
      have ih5 := ih
      intro M H locs ls hf hw hl
      simp only [f_X6_isCarnival_l5] at hf
      refine lv_aload_n hx hb dX6_isCarnival_5 rfl (lv_at hl 0 rfl) ?_
      obtain ⟨r1, M2, hr2, hf⟩ := bnd2S hf
      refine q_callV (rest := []) (st1 := [.int r1]) [] ⟨hx, hb, hml, hown, hts⟩ (c_X6_readsPart hr2) (cwV 0 hts gX6_isCarnival_X6_readsPart rfl rfl rfl (by decide +kernel) ⟨Nat.le_of_ble_eq_true rfl, Nat.le_of_ble_eq_true rfl⟩) hw ma_0 rfl rfl hl.1 rfl (Nat.le_of_ble_eq_true rfl) dX6_isCarnival_6 ⟨Nat.zero_le _, Nat.zero_le _⟩ rfl (fun H locs hw => ?_)
      refine lv_if_eq (tgt := 36) hx hb dX6_isCarnival_9 (by decide) (fun hc => ?_) (fun hc => ?_)
      · have hf := iteT hf hc
        refine lv_iconst (v := 0) hx hb dX6_isCarnival_36 (by decide) ?_
        cases hf
        exact q_zret hx hb hr nb_0 hlocks hw dX6_isCarnival_37
      · have hf := iteF hf hc
        refine lv_aload_n hx hb dX6_isCarnival_12 rfl (lv_at hl 0 rfl) ?_
        refine q_get hx hb hts hiX6 hown hw 0 ma_0 rfl 6 (by decide) (hts (.fieldLink RX6 124 "LaceRanksModel" "at" "I") (by decide +kernel)) rfl dX6_isCarnival_13 ?_
        refine lv_aload_n hx hb dX6_isCarnival_16 rfl (lv_at hl 0 rfl) ?_
        refine q_get hx hb hts hiX6 hown hw 0 ma_0 rfl 5 (by decide) (hts (.fieldLink RX6 121 "LaceRanksModel" "length" "I") (by decide +kernel)) rfl dX6_isCarnival_17 ?_
        refine lv_icmp_ne (tgt := 25) hx hb dX6_isCarnival_20 (by decide) (fun hc => ?_) (fun hc => ?_)
        · have hf := iteF hf hc
          refine lv_aload_n hx hb dX6_isCarnival_25 rfl (lv_at hl 0 rfl) ?_
          refine lv_bipush (v := 59) hx hb dX6_isCarnival_26 (by decide) ?_
          obtain ⟨r3, M4, hr4, hf⟩ := bnd2S hf
          refine q_callV (rest := []) (st1 := [.int r3]) [.int 59] ⟨hx, hb, hml, hown, hts⟩ (c_X6_takes hr4) (cwV 1 hts gX6_isCarnival_X6_takes rfl rfl rfl (by decide +kernel) ⟨Nat.le_of_ble_eq_true rfl, Nat.le_of_ble_eq_true rfl⟩) hw ma_0 rfl rfl hl.1 rfl (Nat.le_of_ble_eq_true rfl) dX6_isCarnival_28 ⟨Nat.zero_le _, Nat.zero_le _⟩ rfl (fun H locs hw => ?_)
          refine lv_if_ne (tgt := 5) hx hb dX6_isCarnival_31 (by decide) (fun hc => ?_) (fun hc => ?_)
          · have hf := iteF hf hc
            exact ih5 M4 H locs ls hf hw (lv_sub hl [0] rfl)
          · have hf := iteT hf hc
            refine lv_iconst (v := 0) hx hb dX6_isCarnival_34 (by decide) ?_
            cases hf
            exact q_zret hx hb hr nb_0 hlocks hw dX6_isCarnival_35
        · have hf := iteT hf hc
          refine lv_iconst (v := 1) hx hb dX6_isCarnival_23 (by decide) ?_
          cases hf
          exact q_zret hx hb hr nb_1 hlocks hw dX6_isCarnival_24
  refine lv_aload_n hx hb dX6_isCarnival_0 rfl (lv_at hl 0 rfl) ?_
  refine lv_iconst (v := 0) hx hb dX6_isCarnival_1 (by decide) ?_
  obtain ⟨M1, hM1, hf⟩ := nmE hf
  refine q_put (ty := .int) hx hb hts hiX6 tyX6 tyX6_ok nmX6 hown hw 0 ma_0 rfl 6 (by decide) (hts (.fieldLink RX6 124 "LaceRanksModel" "at" "I") (by decide +kernel)) rfl (by decide +kernel) rfl rfl (Nat.le_of_ble_eq_true rfl) dX6_isCarnival_2 (ms_0_6.trans (congrArg (fun z => (mws cI ad z)) hM1.symm)) (fun H locs hw => ?_)
  exact L5 fuelN M1 H locs ls hf hw (lv_sub hl [0] rfl)

def f_X6_firstError (M : MS)   : Option (Int32 × MS) := nm (upMS M 3 0 0) (fun M1 => bnd2 (f_X6_isCarnival M1) (fun r2 M3 => some (M3.1 3 4, M3)))
set_option maxHeartbeats 4000000 in
set_option maxRecDepth 100000 in
theorem c_X6_firstError {l : Launch} {D : va_G} {cI cR : ClassId} {ad : Nat → Nat} {A : Nat → Prop} {M : MS} {M' : MS}  {r : Int32}  (hf : f_X6_firstError M = some (r, M')) : MC l yX6_firstError wsX6_firstError 5 105 D cI cR A [.ref (ad 0)] (mws cI ad M) (some (.int r)) (mws cI ad M') := by
  refine Met.ofW (cc := cX6_firstError) (maxL := 1) (ret := (some .int)) (by decide) rfl ?_
  intro p e s m args below meth c s₁ B hml hv
  obtain ⟨rfl, hw⟩ := q_start hv
  have hx := B.exec
  have hb := B.bytes
  have hr := B.returns
  have hts := atoms_spec (ws := wsX6_firstError) B.pre
  have hown : s.vm.findClass RX6 = some m.cls := findClass_of_methodNamed B.named
  have hlocks := B.notSynchronized
  have hiX6 : ∀ w ∈ wsX60, w ∈ wsX6_firstError := by decide +kernel
  have hl := lv_entry ([.ref (ad 0)]) (n := 1) (Nat.le_of_ble_eq_true rfl)
  rw [lg_entry_eq]
  generalize (lg_sl ([.ref (ad 0)]) ++ List.replicate (1 - (lg_sl ([.ref (ad 0)])).length) Slot.unset).toArray = ls at hl ⊢
  have hl : lv_has ls 1 [(0, .ref (ad 0))] := hl
  unfold f_X6_firstError at hf
  obtain ⟨H, eH⟩ : ∃ H, H = s.heap := ⟨_, rfl⟩
  obtain ⟨locs, eL⟩ : ∃ L : List Loc, L = [] := ⟨_, rfl⟩
  rw [← eH, ← eL] at hw ⊢
  clear eH eL
  refine lv_aload_n hx hb dX6_firstError_0 rfl (lv_at hl 0 rfl) ?_
  refine lv_iconst (v := 0) hx hb dX6_firstError_1 (by decide) ?_
  obtain ⟨M1, hM1, hf⟩ := nmE hf
  refine q_put (ty := .int) hx hb hts hiX6 tyX6 tyX6_ok nmX6 hown hw 0 ma_0 rfl 0 (by decide) (hts (.fieldLink RX6 19 "LaceRanksModel" "thrown" "I") (by decide +kernel)) rfl (by decide +kernel) rfl rfl (Nat.le_of_ble_eq_true rfl) dX6_firstError_2 (ms_0_0.trans (congrArg (fun z => (mws cI ad z)) hM1.symm)) (fun H locs hw => ?_)
  refine lv_aload_n hx hb dX6_firstError_5 rfl (lv_at hl 0 rfl) ?_
  obtain ⟨r2, M3, hr3, hf⟩ := bnd2S hf
  refine q_callV (rest := []) (st1 := [.int r2]) [] ⟨hx, hb, hml, hown, hts⟩ (c_X6_isCarnival hr3) (cwV 0 hts gX6_firstError_X6_isCarnival rfl rfl rfl (by decide +kernel) ⟨Nat.le_of_ble_eq_true rfl, Nat.le_of_ble_eq_true rfl⟩) hw ma_0 rfl rfl hl.1 rfl (Nat.le_of_ble_eq_true rfl) dX6_firstError_6 ⟨Nat.zero_le _, Nat.zero_le _⟩ rfl (fun H locs hw => ?_)
  refine lv_pop hx hb dX6_firstError_9 rfl ?_
  refine lv_aload_n hx hb dX6_firstError_10 rfl (lv_at hl 0 rfl) ?_
  refine q_get hx hb hts hiX6 hown hw 0 ma_0 rfl 6 (by decide) (hts (.fieldLink RX6 124 "LaceRanksModel" "at" "I") (by decide +kernel)) rfl dX6_firstError_11 ?_
  cases hf
  exact q_iret hx hb hr hlocks hw dX6_firstError_14

def f_X6_stops_b54  (M : MS)  (y0 : Int32) : Option Int32 := (if y0 = 0 then some 10 else (if (M.1 3 5) = 113 then bnd (f_X6_whyNoLine M (M.1 3 6)) (fun r3 => some r3) else (if (M.1 3 5) = 109 then bnd (f_X6_whyNoMask M (M.1 3 6)) (fun r2 => some r2) else (if (M.1 3 5) = 108 then bnd (f_X6_whyNoLoan M (M.1 3 6) (M.1 3 7)) (fun r1 => some r1) else some 0))))
def f_X6_stops_b49  (M : MS)   : Option Int32 := f_X6_stops_b54 M 1
def f_X6_stops_b53  (M : MS)   : Option Int32 := f_X6_stops_b54 M 0
def f_X6_stops (M : MS)   : Option Int32 := (if (M.1 3 5) = 111 then f_X6_stops_b49 M  else (if (M.1 3 5) = 94 then f_X6_stops_b49 M  else bnd (f_X6_isGuest M (M.1 3 6)) (fun r1 => (if r1 = 0 then f_X6_stops_b53 M  else (if (M.1 3 5) = 108 then bnd (f_X6_isGuest M (M.1 3 7)) (fun r2 => (if r2 = 0 then f_X6_stops_b53 M  else f_X6_stops_b49 M )) else f_X6_stops_b49 M )))))
set_option maxHeartbeats 4000000 in
set_option maxRecDepth 100000 in
theorem c_X6_stops {l : Launch} {D : va_G} {cI cR : ClassId} {ad : Nat → Nat} {A : Nat → Prop} {M : MS}   {r : Int32}  (hf : f_X6_stops M = some r) : MC l yX6_stops wsX6_stops 3 66 D cI cR A [.ref (ad 0)] (mws cI ad M) (some (.int r)) (mws cI ad M) := by
  refine Met.ofW (cc := cX6_stops) (maxL := 2) (ret := (some .int)) (by decide) rfl ?_
  intro p e s m args below meth c s₁ B hml hv
  obtain ⟨rfl, hw⟩ := q_start hv
  have hx := B.exec
  have hb := B.bytes
  have hr := B.returns
  have hts := atoms_spec (ws := wsX6_stops) B.pre
  have hown : s.vm.findClass RX6 = some m.cls := findClass_of_methodNamed B.named
  have hlocks := B.notSynchronized
  have hiX6 : ∀ w ∈ wsX60, w ∈ wsX6_stops := by decide +kernel
  have hl := lv_entry ([.ref (ad 0)]) (n := 2) (Nat.le_of_ble_eq_true rfl)
  rw [lg_entry_eq]
  generalize (lg_sl ([.ref (ad 0)]) ++ List.replicate (2 - (lg_sl ([.ref (ad 0)])).length) Slot.unset).toArray = ls at hl ⊢
  have hl : lv_has ls 2 [(0, .ref (ad 0))] := hl
  unfold f_X6_stops at hf
  obtain ⟨H, eH⟩ : ∃ H, H = s.heap := ⟨_, rfl⟩
  obtain ⟨locs, eL⟩ : ∃ L : List Loc, L = [] := ⟨_, rfl⟩
  rw [← eH, ← eL] at hw ⊢
  clear eH eL
  have B54 : ∀ (y0 : Int32) (H : Heap) (locs : List Loc) (ls : Array Slot), f_X6_stops_b54 M y0 = some r → WH D cI cR A (mws cI ad M) s H locs → lv_has ls 2 [(0, .ref (ad 0))] → W p l e (headSpec wsX6_stops ({ frames := 3, cells := 0, slots := 0, locals := 66 })).room s m ([.ref (ad 0)] : List Value).toArray below meth c H locs 0 0 (MQ below (QV (some (.int r)) D A (mws cI ad M)) (([.ref (ad 0)] : List Value)).toArray s 0 0 A) (F0 m 54 ls [.int y0]) := by
    intro y0 H locs ls hf hw hl
    unfold f_X6_stops_b54 at hf
    refine lv_istore_n (lv' := [(1, .int y0), (0, .ref (ad 0))]) hx hb dX6_stops_54 rfl hl (by decide) rfl (fun ls hl => ?_)
    refine lv_iload_n hx hb dX6_stops_55 rfl (lv_at hl 0 rfl) ?_
    refine lv_if_ne (tgt := 62) hx hb dX6_stops_56 (by decide) (fun hc => ?_) (fun hc => ?_)
    · have hf := iteF hf hc
      refine lv_aload_n hx hb dX6_stops_62 rfl (lv_at hl 1 rfl) ?_
      refine q_get hx hb hts hiX6 hown hw 0 ma_0 rfl 7 (by decide) (hts (.fieldLink RX6 139 "LaceRanksModel" "part" "I") (by decide +kernel)) rfl dX6_stops_63 ?_
      refine lv_bipush (v := 113) hx hb dX6_stops_66 (by decide) ?_
      refine lv_icmp_ne (tgt := 82) hx hb dX6_stops_68 (by decide) (fun hc => ?_) (fun hc => ?_)
      · have hf := iteF hf hc
        refine lv_aload_n hx hb dX6_stops_82 rfl (lv_at hl 1 rfl) ?_
        refine q_get hx hb hts hiX6 hown hw 0 ma_0 rfl 7 (by decide) (hts (.fieldLink RX6 139 "LaceRanksModel" "part" "I") (by decide +kernel)) rfl dX6_stops_83 ?_
        refine lv_bipush (v := 109) hx hb dX6_stops_86 (by decide) ?_
        refine lv_icmp_ne (tgt := 102) hx hb dX6_stops_88 (by decide) (fun hc => ?_) (fun hc => ?_)
        · have hf := iteF hf hc
          refine lv_aload_n hx hb dX6_stops_102 rfl (lv_at hl 1 rfl) ?_
          refine q_get hx hb hts hiX6 hown hw 0 ma_0 rfl 7 (by decide) (hts (.fieldLink RX6 139 "LaceRanksModel" "part" "I") (by decide +kernel)) rfl dX6_stops_103 ?_
          refine lv_bipush (v := 108) hx hb dX6_stops_106 (by decide) ?_
          refine lv_icmp_ne (tgt := 126) hx hb dX6_stops_108 (by decide) (fun hc => ?_) (fun hc => ?_)
          · have hf := iteF hf hc
            refine lv_iconst (v := 0) hx hb dX6_stops_126 (by decide) ?_
            cases hf
            exact q_iret hx hb hr hlocks hw dX6_stops_127
          · have hf := iteT hf hc
            refine lv_aload_n hx hb dX6_stops_111 rfl (lv_at hl 1 rfl) ?_
            refine lv_aload_n hx hb dX6_stops_112 rfl (lv_at hl 1 rfl) ?_
            refine q_get hx hb hts hiX6 hown hw 0 ma_0 rfl 8 (by decide) (hts (.fieldLink RX6 142 "LaceRanksModel" "first" "I") (by decide +kernel)) rfl dX6_stops_113 ?_
            refine lv_aload_n hx hb dX6_stops_116 rfl (lv_at hl 1 rfl) ?_
            refine q_get hx hb hts hiX6 hown hw 0 ma_0 rfl 9 (by decide) (hts (.fieldLink RX6 130 "LaceRanksModel" "second" "I") (by decide +kernel)) rfl dX6_stops_117 ?_
            obtain ⟨r1, hr1, hf⟩ := bndS hf
            refine q_callV (rest := []) (st1 := [.int r1]) [.int (M.1 3 6), .int (M.1 3 7)] ⟨hx, hb, hml, hown, hts⟩ (c_X6_whyNoLoan hr1) (cwV 2 hts gX6_stops_X6_whyNoLoan rfl rfl rfl (by decide +kernel) ⟨Nat.le_of_ble_eq_true rfl, Nat.le_of_ble_eq_true rfl⟩) hw ma_0 rfl rfl hl.1 rfl (Nat.le_of_ble_eq_true rfl) dX6_stops_120 ⟨Nat.zero_le _, Nat.zero_le _⟩ rfl (fun H locs hw => ?_)
            refine lv_goto (tgt := 127) hx hb dX6_stops_123 (by decide) ?_
            cases hf
            exact q_iret hx hb hr hlocks hw dX6_stops_127
        · have hf := iteT hf hc
          refine lv_aload_n hx hb dX6_stops_91 rfl (lv_at hl 1 rfl) ?_
          refine lv_aload_n hx hb dX6_stops_92 rfl (lv_at hl 1 rfl) ?_
          refine q_get hx hb hts hiX6 hown hw 0 ma_0 rfl 8 (by decide) (hts (.fieldLink RX6 142 "LaceRanksModel" "first" "I") (by decide +kernel)) rfl dX6_stops_93 ?_
          obtain ⟨r2, hr2, hf⟩ := bndS hf
          refine q_callV (rest := []) (st1 := [.int r2]) [.int (M.1 3 6)] ⟨hx, hb, hml, hown, hts⟩ (c_X6_whyNoMask hr2) (cwV 1 hts gX6_stops_X6_whyNoMask rfl rfl rfl (by decide +kernel) ⟨Nat.le_of_ble_eq_true rfl, Nat.le_of_ble_eq_true rfl⟩) hw ma_0 rfl rfl hl.1 rfl (Nat.le_of_ble_eq_true rfl) dX6_stops_96 ⟨Nat.zero_le _, Nat.zero_le _⟩ rfl (fun H locs hw => ?_)
          refine lv_goto (tgt := 127) hx hb dX6_stops_99 (by decide) ?_
          cases hf
          exact q_iret hx hb hr hlocks hw dX6_stops_127
      · have hf := iteT hf hc
        refine lv_aload_n hx hb dX6_stops_71 rfl (lv_at hl 1 rfl) ?_
        refine lv_aload_n hx hb dX6_stops_72 rfl (lv_at hl 1 rfl) ?_
        refine q_get hx hb hts hiX6 hown hw 0 ma_0 rfl 8 (by decide) (hts (.fieldLink RX6 142 "LaceRanksModel" "first" "I") (by decide +kernel)) rfl dX6_stops_73 ?_
        obtain ⟨r3, hr3, hf⟩ := bndS hf
        refine q_callV (rest := []) (st1 := [.int r3]) [.int (M.1 3 6)] ⟨hx, hb, hml, hown, hts⟩ (c_X6_whyNoLine hr3) (cwV 1 hts gX6_stops_X6_whyNoLine rfl rfl rfl (by decide +kernel) ⟨Nat.le_of_ble_eq_true rfl, Nat.le_of_ble_eq_true rfl⟩) hw ma_0 rfl rfl hl.1 rfl (Nat.le_of_ble_eq_true rfl) dX6_stops_76 ⟨Nat.zero_le _, Nat.zero_le _⟩ rfl (fun H locs hw => ?_)
        refine lv_goto (tgt := 127) hx hb dX6_stops_79 (by decide) ?_
        cases hf
        exact q_iret hx hb hr hlocks hw dX6_stops_127
    · have hf := iteT hf hc
      refine lv_bipush (v := 10) hx hb dX6_stops_59 (by decide) ?_
      cases hf
      exact q_iret hx hb hr hlocks hw dX6_stops_61
  have B49 : ∀  (H : Heap) (locs : List Loc) (ls : Array Slot), f_X6_stops_b49 M  = some r → WH D cI cR A (mws cI ad M) s H locs → lv_has ls 2 [(0, .ref (ad 0))] → W p l e (headSpec wsX6_stops ({ frames := 3, cells := 0, slots := 0, locals := 66 })).room s m ([.ref (ad 0)] : List Value).toArray below meth c H locs 0 0 (MQ below (QV (some (.int r)) D A (mws cI ad M)) (([.ref (ad 0)] : List Value)).toArray s 0 0 A) (F0 m 49 ls []) := by
    intro  H locs ls hf hw hl
    unfold f_X6_stops_b49 at hf
    refine lv_iconst (v := 1) hx hb dX6_stops_49 (by decide) ?_
    refine lv_goto (tgt := 54) hx hb dX6_stops_50 (by decide) ?_
    exact B54 1 H locs ls hf hw (lv_sub hl [0] rfl)
  have B53 : ∀  (H : Heap) (locs : List Loc) (ls : Array Slot), f_X6_stops_b53 M  = some r → WH D cI cR A (mws cI ad M) s H locs → lv_has ls 2 [(0, .ref (ad 0))] → W p l e (headSpec wsX6_stops ({ frames := 3, cells := 0, slots := 0, locals := 66 })).room s m ([.ref (ad 0)] : List Value).toArray below meth c H locs 0 0 (MQ below (QV (some (.int r)) D A (mws cI ad M)) (([.ref (ad 0)] : List Value)).toArray s 0 0 A) (F0 m 53 ls []) := by
    intro  H locs ls hf hw hl
    unfold f_X6_stops_b53 at hf
    refine lv_iconst (v := 0) hx hb dX6_stops_53 (by decide) ?_
    exact B54 0 H locs ls hf hw (lv_sub hl [0] rfl)
  refine lv_aload_n hx hb dX6_stops_0 rfl (lv_at hl 0 rfl) ?_
  refine q_get hx hb hts hiX6 hown hw 0 ma_0 rfl 7 (by decide) (hts (.fieldLink RX6 139 "LaceRanksModel" "part" "I") (by decide +kernel)) rfl dX6_stops_1 ?_
  refine lv_bipush (v := 111) hx hb dX6_stops_4 (by decide) ?_
  refine lv_icmp_eq (tgt := 49) hx hb dX6_stops_6 (by decide) (fun hc => ?_) (fun hc => ?_)
  · have hf := iteT hf hc
    exact B49  H locs ls hf hw (lv_sub hl [0] rfl)
  · have hf := iteF hf hc
    refine lv_aload_n hx hb dX6_stops_9 rfl (lv_at hl 0 rfl) ?_
    refine q_get hx hb hts hiX6 hown hw 0 ma_0 rfl 7 (by decide) (hts (.fieldLink RX6 139 "LaceRanksModel" "part" "I") (by decide +kernel)) rfl dX6_stops_10 ?_
    refine lv_bipush (v := 94) hx hb dX6_stops_13 (by decide) ?_
    refine lv_icmp_eq (tgt := 49) hx hb dX6_stops_15 (by decide) (fun hc => ?_) (fun hc => ?_)
    · have hf := iteT hf hc
      exact B49  H locs ls hf hw (lv_sub hl [0] rfl)
    · have hf := iteF hf hc
      refine lv_aload_n hx hb dX6_stops_18 rfl (lv_at hl 0 rfl) ?_
      refine lv_aload_n hx hb dX6_stops_19 rfl (lv_at hl 0 rfl) ?_
      refine q_get hx hb hts hiX6 hown hw 0 ma_0 rfl 8 (by decide) (hts (.fieldLink RX6 142 "LaceRanksModel" "first" "I") (by decide +kernel)) rfl dX6_stops_20 ?_
      obtain ⟨r1, hr1, hf⟩ := bndS hf
      refine q_callV (rest := []) (st1 := [.int r1]) [.int (M.1 3 6)] ⟨hx, hb, hml, hown, hts⟩ (c_X6_isGuest hr1) (cwV 1 hts gX6_stops_X6_isGuest rfl rfl rfl (by decide +kernel) ⟨Nat.le_of_ble_eq_true rfl, Nat.le_of_ble_eq_true rfl⟩) hw ma_0 rfl rfl hl.1 rfl (Nat.le_of_ble_eq_true rfl) dX6_stops_23 ⟨Nat.zero_le _, Nat.zero_le _⟩ rfl (fun H locs hw => ?_)
      refine lv_if_eq (tgt := 53) hx hb dX6_stops_26 (by decide) (fun hc => ?_) (fun hc => ?_)
      · have hf := iteT hf hc
        exact B53  H locs ls hf hw (lv_sub hl [0] rfl)
      · have hf := iteF hf hc
        refine lv_aload_n hx hb dX6_stops_29 rfl (lv_at hl 0 rfl) ?_
        refine q_get hx hb hts hiX6 hown hw 0 ma_0 rfl 7 (by decide) (hts (.fieldLink RX6 139 "LaceRanksModel" "part" "I") (by decide +kernel)) rfl dX6_stops_30 ?_
        refine lv_bipush (v := 108) hx hb dX6_stops_33 (by decide) ?_
        refine lv_icmp_ne (tgt := 49) hx hb dX6_stops_35 (by decide) (fun hc => ?_) (fun hc => ?_)
        · have hf := iteF hf hc
          exact B49  H locs ls hf hw (lv_sub hl [0] rfl)
        · have hf := iteT hf hc
          refine lv_aload_n hx hb dX6_stops_38 rfl (lv_at hl 0 rfl) ?_
          refine lv_aload_n hx hb dX6_stops_39 rfl (lv_at hl 0 rfl) ?_
          refine q_get hx hb hts hiX6 hown hw 0 ma_0 rfl 9 (by decide) (hts (.fieldLink RX6 130 "LaceRanksModel" "second" "I") (by decide +kernel)) rfl dX6_stops_40 ?_
          obtain ⟨r2, hr2, hf⟩ := bndS hf
          refine q_callV (rest := []) (st1 := [.int r2]) [.int (M.1 3 7)] ⟨hx, hb, hml, hown, hts⟩ (c_X6_isGuest hr2) (cwV 1 hts gX6_stops_X6_isGuest rfl rfl rfl (by decide +kernel) ⟨Nat.le_of_ble_eq_true rfl, Nat.le_of_ble_eq_true rfl⟩) hw ma_0 rfl rfl hl.1 rfl (Nat.le_of_ble_eq_true rfl) dX6_stops_43 ⟨Nat.zero_le _, Nat.zero_le _⟩ rfl (fun H locs hw => ?_)
          refine lv_if_eq (tgt := 53) hx hb dX6_stops_46 (by decide) (fun hc => ?_) (fun hc => ?_)
          · have hf := iteT hf hc
            exact B53  H locs ls hf hw (lv_sub hl [0] rfl)
          · have hf := iteF hf hc
            exact B49  H locs ls hf hw (lv_sub hl [0] rfl)

def f_X6_happens_l74    : Nat → MS → Int32 → Option MS
  | 0, _, _ => none
  | n74 + 1, M, x1 => (if (M.1 3 7) ≤ x1 then some M else bnd (f_X6_lineLength M (M.1 3 6)) (fun r1 => (if r1 ≤ 0 then some M else bnd2 (f_X6_opens M (M.1 3 6)) (fun r2 M3 => nm (x1 + 1) (fun v4 => (f_X6_happens_l74 n74) M3 v4)))))
def f_X6_happens (M : MS)   : Option MS := (if (M.1 3 5) = 36 then bnd2 (f_X6_pays M (M.1 3 6)) (fun r1 M2 => some M2) else (if (M.1 3 5) = 108 then bnd2 (f_X6_lends M (M.1 3 6) (M.1 3 7)) (fun r3 M4 => some M4) else (if (M.1 3 5) = 109 then bnd2 (f_X6_masks M (M.1 3 6)) (fun r5 M6 => some M6) else (if (M.1 3 5) = 111 then f_X6_happens_l74 fuelN M 0 else (if (M.1 3 5) = 113 then bnd2 (f_X6_queues M (M.1 3 6) (M.1 3 7)) (fun r7 M8 => some M8) else (bnd2 (f_X6_nights M) (fun r9 M10 => some M10)))))))
set_option maxHeartbeats 4000000 in
set_option maxRecDepth 100000 in
theorem c_X6_happens {l : Launch} {D : va_G} {cI cR : ClassId} {ad : Nat → Nat} {A : Nat → Prop} {M : MS} {M' : MS}    (hf : f_X6_happens M = some M') : MC l yX6_happens wsX6_happens 4 99 D cI cR A [.ref (ad 0)] (mws cI ad M) none (mws cI ad M') := by
  refine Met.ofW (cc := cX6_happens) (maxL := 2) (ret := none) (by decide) rfl ?_
  intro p e s m args below meth c s₁ B hml hv
  obtain ⟨rfl, hw⟩ := q_start hv
  have hx := B.exec
  have hb := B.bytes
  have hr := B.returns
  have hts := atoms_spec (ws := wsX6_happens) B.pre
  have hown : s.vm.findClass RX6 = some m.cls := findClass_of_methodNamed B.named
  have hlocks := B.notSynchronized
  have hiX6 : ∀ w ∈ wsX60, w ∈ wsX6_happens := by decide +kernel
  have hl := lv_entry ([.ref (ad 0)]) (n := 2) (Nat.le_of_ble_eq_true rfl)
  rw [lg_entry_eq]
  generalize (lg_sl ([.ref (ad 0)]) ++ List.replicate (2 - (lg_sl ([.ref (ad 0)])).length) Slot.unset).toArray = ls at hl ⊢
  have hl : lv_has ls 2 [(0, .ref (ad 0))] := hl
  unfold f_X6_happens at hf
  obtain ⟨H, eH⟩ : ∃ H, H = s.heap := ⟨_, rfl⟩
  obtain ⟨locs, eL⟩ : ∃ L : List Loc, L = [] := ⟨_, rfl⟩
  rw [← eH, ← eL] at hw ⊢
  clear eH eL
  have L74 : ∀ (n74 : Nat) (M : MS) (x1 : Int32) (H : Heap) (locs : List Loc) (ls : Array Slot), f_X6_happens_l74 n74 M x1 = some M' → WH D cI cR A (mws cI ad M) s H locs → lv_has ls 2 [(0, .ref (ad 0)), (1, .int x1)] → W p l e (headSpec wsX6_happens ({ frames := 4, cells := 0, slots := 0, locals := 99 })).room s m ([.ref (ad 0)] : List Value).toArray below meth c H locs 0 0 (MQ below (QV none D A (mws cI ad M')) (([.ref (ad 0)] : List Value)).toArray s 0 0 A) (F0 m 74 ls []) := by
    intro n74
    induction n74 with
    | zero => intro M x1 H locs ls hf; cases hf
    | succ n74 ih =>
      have ih74 := ih
      intro M x1 H locs ls hf hw hl
      simp only [f_X6_happens_l74] at hf
      refine lv_iload_n hx hb dX6_happens_74 rfl (lv_at hl 1 rfl) ?_
      refine lv_aload_n hx hb dX6_happens_75 rfl (lv_at hl 0 rfl) ?_
      refine q_get hx hb hts hiX6 hown hw 0 ma_0 rfl 9 (by decide) (hts (.fieldLink RX6 130 "LaceRanksModel" "second" "I") (by decide +kernel)) rfl dX6_happens_76 ?_
      refine lv_icmp_ge (tgt := 108) hx hb dX6_happens_79 (by decide) (fun hc => ?_) (fun hc => ?_)
      · have hf := iteT hf hc
        refine lv_goto (tgt := 156) hx hb dX6_happens_108 (by decide) ?_
        cases hf
        exact q_vret hx hb hr hlocks hw dX6_happens_156
      · have hf := iteF hf hc
        refine lv_aload_n hx hb dX6_happens_82 rfl (lv_at hl 0 rfl) ?_
        refine lv_aload_n hx hb dX6_happens_83 rfl (lv_at hl 0 rfl) ?_
        refine q_get hx hb hts hiX6 hown hw 0 ma_0 rfl 8 (by decide) (hts (.fieldLink RX6 142 "LaceRanksModel" "first" "I") (by decide +kernel)) rfl dX6_happens_84 ?_
        obtain ⟨r1, hr1, hf⟩ := bndS hf
        refine q_callV (rest := []) (st1 := [.int r1]) [.int (M.1 3 6)] ⟨hx, hb, hml, hown, hts⟩ (c_X6_lineLength hr1) (cwV 1 hts gX6_happens_X6_lineLength rfl rfl rfl (by decide +kernel) ⟨Nat.le_of_ble_eq_true rfl, Nat.le_of_ble_eq_true rfl⟩) hw ma_0 rfl rfl hl.1 rfl (Nat.le_of_ble_eq_true rfl) dX6_happens_87 ⟨Nat.zero_le _, Nat.zero_le _⟩ rfl (fun H locs hw => ?_)
        refine lv_if_le (tgt := 108) hx hb dX6_happens_90 (by decide) (fun hc => ?_) (fun hc => ?_)
        · have hf := iteT hf hc
          refine lv_goto (tgt := 156) hx hb dX6_happens_108 (by decide) ?_
          cases hf
          exact q_vret hx hb hr hlocks hw dX6_happens_156
        · have hf := iteF hf hc
          refine lv_aload_n hx hb dX6_happens_93 rfl (lv_at hl 0 rfl) ?_
          refine lv_aload_n hx hb dX6_happens_94 rfl (lv_at hl 0 rfl) ?_
          refine q_get hx hb hts hiX6 hown hw 0 ma_0 rfl 8 (by decide) (hts (.fieldLink RX6 142 "LaceRanksModel" "first" "I") (by decide +kernel)) rfl dX6_happens_95 ?_
          obtain ⟨r2, M3, hr3, hf⟩ := bnd2S hf
          refine q_callV (rest := []) (st1 := [.int r2]) [.int (M.1 3 6)] ⟨hx, hb, hml, hown, hts⟩ (c_X6_opens hr3) (cwV 1 hts gX6_happens_X6_opens rfl rfl rfl (by decide +kernel) ⟨Nat.le_of_ble_eq_true rfl, Nat.le_of_ble_eq_true rfl⟩) hw ma_0 rfl rfl hl.1 rfl (Nat.le_of_ble_eq_true rfl) dX6_happens_98 ⟨Nat.zero_le _, Nat.zero_le _⟩ rfl (fun H locs hw => ?_)
          refine lv_pop hx hb dX6_happens_101 rfl ?_
          obtain ⟨v4, hv4, hf⟩ := nmE hf
          refine lv_iinc (v := v4) (lv' := [(1, .int v4), (0, .ref (ad 0))]) hx hb dX6_happens_102 hl (k := 1) rfl (by rw [hv4]; rfl) (by decide) rfl (fun ls hl => ?_)
          refine lv_goto (tgt := 74) hx hb dX6_happens_105 (by decide) ?_
          exact ih74 M3 v4 H locs ls hf hw (lv_sub hl [1, 0] rfl)
  refine lv_aload_n hx hb dX6_happens_0 rfl (lv_at hl 0 rfl) ?_
  refine q_get hx hb hts hiX6 hown hw 0 ma_0 rfl 7 (by decide) (hts (.fieldLink RX6 139 "LaceRanksModel" "part" "I") (by decide +kernel)) rfl dX6_happens_1 ?_
  by_cases hc0 : (M.1 3 5) = 36
  · have hf := iteT hf hc0
    refine lv_lookup (tgt := 139) hx hb dX6_happens_4 (by decide) (by first | (rw [hc0]; done) | (rw [hc0]; rfl)) (by decide) ?_
    refine lv_aload_n hx hb dX6_happens_139 rfl (lv_at hl 0 rfl) ?_
    refine lv_aload_n hx hb dX6_happens_140 rfl (lv_at hl 0 rfl) ?_
    refine q_get hx hb hts hiX6 hown hw 0 ma_0 rfl 8 (by decide) (hts (.fieldLink RX6 142 "LaceRanksModel" "first" "I") (by decide +kernel)) rfl dX6_happens_141 ?_
    obtain ⟨r1, M2, hr2, hf⟩ := bnd2S hf
    refine q_callV (rest := []) (st1 := [.int r1]) [.int (M.1 3 6)] ⟨hx, hb, hml, hown, hts⟩ (c_X6_pays hr2) (cwV 1 hts gX6_happens_X6_pays rfl rfl rfl (by decide +kernel) ⟨Nat.le_of_ble_eq_true rfl, Nat.le_of_ble_eq_true rfl⟩) hw ma_0 rfl rfl hl.1 rfl (Nat.le_of_ble_eq_true rfl) dX6_happens_144 ⟨Nat.zero_le _, Nat.zero_le _⟩ rfl (fun H locs hw => ?_)
    refine lv_pop hx hb dX6_happens_147 rfl ?_
    refine lv_goto (tgt := 156) hx hb dX6_happens_148 (by decide) ?_
    cases hf
    exact q_vret hx hb hr hlocks hw dX6_happens_156
  replace hf := iteF hf hc0
  by_cases hc1 : (M.1 3 5) = 108
  · have hf := iteT hf hc1
    refine lv_lookup (tgt := 123) hx hb dX6_happens_4 (by decide) (by first | (rw [hc1]; done) | (rw [hc1]; rfl)) (by decide) ?_
    refine lv_aload_n hx hb dX6_happens_123 rfl (lv_at hl 0 rfl) ?_
    refine lv_aload_n hx hb dX6_happens_124 rfl (lv_at hl 0 rfl) ?_
    refine q_get hx hb hts hiX6 hown hw 0 ma_0 rfl 8 (by decide) (hts (.fieldLink RX6 142 "LaceRanksModel" "first" "I") (by decide +kernel)) rfl dX6_happens_125 ?_
    refine lv_aload_n hx hb dX6_happens_128 rfl (lv_at hl 0 rfl) ?_
    refine q_get hx hb hts hiX6 hown hw 0 ma_0 rfl 9 (by decide) (hts (.fieldLink RX6 130 "LaceRanksModel" "second" "I") (by decide +kernel)) rfl dX6_happens_129 ?_
    obtain ⟨r3, M4, hr4, hf⟩ := bnd2S hf
    refine q_callV (rest := []) (st1 := [.int r3]) [.int (M.1 3 6), .int (M.1 3 7)] ⟨hx, hb, hml, hown, hts⟩ (c_X6_lends hr4) (cwV 2 hts gX6_happens_X6_lends rfl rfl rfl (by decide +kernel) ⟨Nat.le_of_ble_eq_true rfl, Nat.le_of_ble_eq_true rfl⟩) hw ma_0 rfl rfl hl.1 rfl (Nat.le_of_ble_eq_true rfl) dX6_happens_132 ⟨Nat.zero_le _, Nat.zero_le _⟩ rfl (fun H locs hw => ?_)
    refine lv_pop hx hb dX6_happens_135 rfl ?_
    refine lv_goto (tgt := 156) hx hb dX6_happens_136 (by decide) ?_
    cases hf
    exact q_vret hx hb hr hlocks hw dX6_happens_156
  replace hf := iteF hf hc1
  by_cases hc2 : (M.1 3 5) = 109
  · have hf := iteT hf hc2
    refine lv_lookup (tgt := 111) hx hb dX6_happens_4 (by decide) (by first | (rw [hc2]; done) | (rw [hc2]; rfl)) (by decide) ?_
    refine lv_aload_n hx hb dX6_happens_111 rfl (lv_at hl 0 rfl) ?_
    refine lv_aload_n hx hb dX6_happens_112 rfl (lv_at hl 0 rfl) ?_
    refine q_get hx hb hts hiX6 hown hw 0 ma_0 rfl 8 (by decide) (hts (.fieldLink RX6 142 "LaceRanksModel" "first" "I") (by decide +kernel)) rfl dX6_happens_113 ?_
    obtain ⟨r5, M6, hr6, hf⟩ := bnd2S hf
    refine q_callV (rest := []) (st1 := [.int r5]) [.int (M.1 3 6)] ⟨hx, hb, hml, hown, hts⟩ (c_X6_masks hr6) (cwV 1 hts gX6_happens_X6_masks rfl rfl rfl (by decide +kernel) ⟨Nat.le_of_ble_eq_true rfl, Nat.le_of_ble_eq_true rfl⟩) hw ma_0 rfl rfl hl.1 rfl (Nat.le_of_ble_eq_true rfl) dX6_happens_116 ⟨Nat.zero_le _, Nat.zero_le _⟩ rfl (fun H locs hw => ?_)
    refine lv_pop hx hb dX6_happens_119 rfl ?_
    refine lv_goto (tgt := 156) hx hb dX6_happens_120 (by decide) ?_
    cases hf
    exact q_vret hx hb hr hlocks hw dX6_happens_156
  replace hf := iteF hf hc2
  by_cases hc3 : (M.1 3 5) = 111
  · have hf := iteT hf hc3
    refine lv_lookup (tgt := 72) hx hb dX6_happens_4 (by decide) (by first | (rw [hc3]; done) | (rw [hc3]; rfl)) (by decide) ?_
    refine lv_iconst (v := 0) hx hb dX6_happens_72 (by decide) ?_
    refine lv_istore_n (lv' := [(1, .int 0), (0, .ref (ad 0))]) hx hb dX6_happens_73 rfl hl (by decide) rfl (fun ls hl => ?_)
    exact L74 fuelN M 0 H locs ls hf hw (lv_sub hl [1, 0] rfl)
  replace hf := iteF hf hc3
  by_cases hc4 : (M.1 3 5) = 113
  · have hf := iteT hf hc4
    refine lv_lookup (tgt := 56) hx hb dX6_happens_4 (by decide) (by first | (rw [hc4]; done) | (rw [hc4]; rfl)) (by decide) ?_
    refine lv_aload_n hx hb dX6_happens_56 rfl (lv_at hl 0 rfl) ?_
    refine lv_aload_n hx hb dX6_happens_57 rfl (lv_at hl 0 rfl) ?_
    refine q_get hx hb hts hiX6 hown hw 0 ma_0 rfl 8 (by decide) (hts (.fieldLink RX6 142 "LaceRanksModel" "first" "I") (by decide +kernel)) rfl dX6_happens_58 ?_
    refine lv_aload_n hx hb dX6_happens_61 rfl (lv_at hl 0 rfl) ?_
    refine q_get hx hb hts hiX6 hown hw 0 ma_0 rfl 9 (by decide) (hts (.fieldLink RX6 130 "LaceRanksModel" "second" "I") (by decide +kernel)) rfl dX6_happens_62 ?_
    obtain ⟨r7, M8, hr8, hf⟩ := bnd2S hf
    refine q_callV (rest := []) (st1 := [.int r7]) [.int (M.1 3 6), .int (M.1 3 7)] ⟨hx, hb, hml, hown, hts⟩ (c_X6_queues hr8) (cwV 2 hts gX6_happens_X6_queues rfl rfl rfl (by decide +kernel) ⟨Nat.le_of_ble_eq_true rfl, Nat.le_of_ble_eq_true rfl⟩) hw ma_0 rfl rfl hl.1 rfl (Nat.le_of_ble_eq_true rfl) dX6_happens_65 ⟨Nat.zero_le _, Nat.zero_le _⟩ rfl (fun H locs hw => ?_)
    refine lv_pop hx hb dX6_happens_68 rfl ?_
    refine lv_goto (tgt := 156) hx hb dX6_happens_69 (by decide) ?_
    cases hf
    exact q_vret hx hb hr hlocks hw dX6_happens_156
  replace hf := iteF hf hc4
  refine lv_lookup (tgt := 151) hx hb dX6_happens_4 (by decide) (by show Op.lookupswitch.offset [(36, 135), (108, 119), (109, 107), (111, 68), (113, 52)] (147) _ = 147; simp only [Op.lookupswitch.offset, if_neg (ne_toInt' hc0 (k := 36) (by decide)), if_neg (ne_toInt' hc1 (k := 108) (by decide)), if_neg (ne_toInt' hc2 (k := 109) (by decide)), if_neg (ne_toInt' hc3 (k := 111) (by decide)), if_neg (ne_toInt' hc4 (k := 113) (by decide))]) (by decide) ?_
  refine lv_aload_n hx hb dX6_happens_151 rfl (lv_at hl 0 rfl) ?_
  obtain ⟨r9, M10, hr10, hf⟩ := bnd2S hf
  refine q_callV (rest := []) (st1 := [.int r9]) [] ⟨hx, hb, hml, hown, hts⟩ (c_X6_nights hr10) (cwV 0 hts gX6_happens_X6_nights rfl rfl rfl (by decide +kernel) ⟨Nat.le_of_ble_eq_true rfl, Nat.le_of_ble_eq_true rfl⟩) hw ma_0 rfl rfl hl.1 rfl (Nat.le_of_ble_eq_true rfl) dX6_happens_152 ⟨Nat.zero_le _, Nat.zero_le _⟩ rfl (fun H locs hw => ?_)
  refine lv_pop hx hb dX6_happens_155 rfl ?_
  cases hf
  exact q_vret hx hb hr hlocks hw dX6_happens_156

def f_X6_revel_b111    (M : MS) (x1 : Int32) : Option (Int32 × MS) := nm (upMS M 3 3 0) (fun M1 => some (x1, M1))
def f_X6_revel_b108 (k48 : MS → Int32 → Option (Int32 × MS))   (M : MS) (x1 : Int32) : Option (Int32 × MS) := k48 M x1
def f_X6_revel_l48    : Nat → MS → Int32 → Option (Int32 × MS)
  | 0, _, _ => none
  | n48 + 1, M, x1 => gd (inb 8 952) (nm (M.1 0 (8 : Int32).toNatClampNeg) (fun v1 => (if v1 = (-1) then bnd2 (f_X6_readsPart M) (fun r2 M3 => (if r2 = 0 then f_X6_revel_b111 M3 x1 else bnd (f_X6_stops M3) (fun r4 => (if r4 ≤ 0 then bnd (f_X6_happens M3) (fun M5 => nm (x1 + 1) (fun v6 => bnd2 (f_X6_takes M5 59) (fun r7 M8 => f_X6_revel_b108 (f_X6_revel_l48 n48) M8 v6))) else gd (inb 8 952) (nm (upM M3 0 (upd (M3.1 0) (8 : Int32).toNatClampNeg x1)) (fun M9 => gd (inb 9 952) (nm (upM M9 0 (upd (M9.1 0) (9 : Int32).toNatClampNeg r4)) (fun M10 => f_X6_revel_b108 (f_X6_revel_l48 n48) M10 x1)))))))) else f_X6_revel_b111 M x1)))
def f_X6_revel_b13    (M : MS) (y0 : Int32) : Option (Int32 × MS) := bnd2 (f_X6_holds M y0) (fun r1 M2 => (if r1 = 0 then some (0, M2) else bnd (f_X6_save M2) (fun M3 => gd (inb 8 952) (nm (upM M3 0 (upd (M3.1 0) (8 : Int32).toNatClampNeg (-1))) (fun M4 => gd (inb 9 952) (nm (upM M4 0 (upd (M4.1 0) (9 : Int32).toNatClampNeg (-1))) (fun M5 => nm (upMS M5 3 4 0) (fun M6 => f_X6_revel_l48 fuelN M6 0))))))))
def f_X6_revel (M : MS)   : Option (Int32 × MS) := bnd2 (f_X6_isCarnival M) (fun r1 M2 => (if r1 = 0 then f_X6_revel_b13 M2 1 else f_X6_revel_b13 M2 0))
set_option maxHeartbeats 4000000 in
set_option maxRecDepth 100000 in
theorem c_X6_revel {l : Launch} {D : va_G} {cI cR : ClassId} {ad : Nat → Nat} {A : Nat → Prop} {M : MS} {M' : MS}  {r : Int32}  (hf : f_X6_revel M = some (r, M')) : MC l yX6_revel wsX6_revel 5 120 D cI cR A [.ref (ad 0)] (mws cI ad M) (some (.int r)) (mws cI ad M') := by
  refine Met.ofW (cc := cX6_revel) (maxL := 3) (ret := (some .int)) (by decide) rfl ?_
  intro p e s m args below meth c s₁ B hml hv
  obtain ⟨rfl, hw⟩ := q_start hv
  have hx := B.exec
  have hb := B.bytes
  have hr := B.returns
  have hts := atoms_spec (ws := wsX6_revel) B.pre
  have hown : s.vm.findClass RX6 = some m.cls := findClass_of_methodNamed B.named
  have hlocks := B.notSynchronized
  have hiX6 : ∀ w ∈ wsX60, w ∈ wsX6_revel := by decide +kernel
  have hl := lv_entry ([.ref (ad 0)]) (n := 3) (Nat.le_of_ble_eq_true rfl)
  rw [lg_entry_eq]
  generalize (lg_sl ([.ref (ad 0)]) ++ List.replicate (3 - (lg_sl ([.ref (ad 0)])).length) Slot.unset).toArray = ls at hl ⊢
  have hl : lv_has ls 3 [(0, .ref (ad 0))] := hl
  unfold f_X6_revel at hf
  obtain ⟨H, eH⟩ : ∃ H, H = s.heap := ⟨_, rfl⟩
  obtain ⟨locs, eL⟩ : ∃ L : List Loc, L = [] := ⟨_, rfl⟩
  rw [← eH, ← eL] at hw ⊢
  clear eH eL
  have B111 : ∀ (M : MS) (x1 : Int32) (H : Heap) (locs : List Loc) (ls : Array Slot), f_X6_revel_b111 M x1 = some (r, M') → WH D cI cR A (mws cI ad M) s H locs → lv_has ls 3 [(0, .ref (ad 0)), (1, .int x1)] → W p l e (headSpec wsX6_revel ({ frames := 5, cells := 0, slots := 0, locals := 120 })).room s m ([.ref (ad 0)] : List Value).toArray below meth c H locs 0 0 (MQ below (QV (some (.int r)) D A (mws cI ad M')) (([.ref (ad 0)] : List Value)).toArray s 0 0 A) (F0 m 111 ls []) := by
    intro M x1 H locs ls hf hw hl
    unfold f_X6_revel_b111 at hf
    refine lv_aload_n hx hb dX6_revel_111 rfl (lv_at hl 0 rfl) ?_
    refine lv_iconst (v := 0) hx hb dX6_revel_112 (by decide) ?_
    obtain ⟨M1, hM1, hf⟩ := nmE hf
    refine q_put (ty := .int) hx hb hts hiX6 tyX6 tyX6_ok nmX6 hown hw 0 ma_0 rfl 5 (by decide) (hts (.fieldLink RX6 121 "LaceRanksModel" "length" "I") (by decide +kernel)) rfl (by decide +kernel) rfl rfl (Nat.le_of_ble_eq_true rfl) dX6_revel_113 (ms_0_5.trans (congrArg (fun z => (mws cI ad z)) hM1.symm)) (fun H locs hw => ?_)
    refine lv_iload_n hx hb dX6_revel_116 rfl (lv_at hl 1 rfl) ?_
    cases hf
    exact q_iret hx hb hr hlocks hw dX6_revel_117
  have L48 : ∀ (n48 : Nat) (M : MS) (x1 : Int32) (H : Heap) (locs : List Loc) (ls : Array Slot), f_X6_revel_l48 n48 M x1 = some (r, M') → WH D cI cR A (mws cI ad M) s H locs → lv_has ls 3 [(0, .ref (ad 0)), (1, .int x1)] → W p l e (headSpec wsX6_revel ({ frames := 5, cells := 0, slots := 0, locals := 120 })).room s m ([.ref (ad 0)] : List Value).toArray below meth c H locs 0 0 (MQ below (QV (some (.int r)) D A (mws cI ad M')) (([.ref (ad 0)] : List Value)).toArray s 0 0 A) (F0 m 48 ls []) := by
    intro n48
    induction n48 with
    | zero => intro M x1 H locs ls hf; cases hf
    | succ n48 ih =>
      have ih48 := ih
      have B108 : ∀ (M : MS) (x1 : Int32) (H : Heap) (locs : List Loc) (ls : Array Slot), f_X6_revel_b108 (f_X6_revel_l48 n48) M x1 = some (r, M') → WH D cI cR A (mws cI ad M) s H locs → lv_has ls 3 [(0, .ref (ad 0)), (1, .int x1)] → W p l e (headSpec wsX6_revel ({ frames := 5, cells := 0, slots := 0, locals := 120 })).room s m ([.ref (ad 0)] : List Value).toArray below meth c H locs 0 0 (MQ below (QV (some (.int r)) D A (mws cI ad M')) (([.ref (ad 0)] : List Value)).toArray s 0 0 A) (F0 m 108 ls []) := by
        intro M x1 H locs ls hf hw hl
        unfold f_X6_revel_b108 at hf
        refine lv_goto (tgt := 48) hx hb dX6_revel_108 (by decide) ?_
        exact ih48 M x1 H locs ls hf hw (lv_sub hl [0, 1] rfl)
      intro M x1 H locs ls hf hw hl
      simp only [f_X6_revel_l48] at hf
      refine lv_aload_n hx hb dX6_revel_48 rfl (lv_at hl 0 rfl) ?_
      refine q_get hx hb hts hiX6 hown hw 0 ma_0 rfl 1 (by decide) (hts (.fieldLink RX6 7 "LaceRanksModel" "s" "[I") (by decide +kernel)) rfl dX6_revel_49 ?_
      refine lv_bipush (v := 8) hx hb dX6_revel_52 (by decide) ?_
      obtain ⟨hg, hf⟩ := gdE hf
      obtain ⟨v1, hv1, hf⟩ := nmE hf
      refine q_iald hx hb hw 1 ma_1 (inb_in hg) dX6_revel_54 ?_
      refine q_is hv1 ?_
      refine lv_iconst (v := (-1)) hx hb dX6_revel_55 (by decide) ?_
      refine lv_icmp_ne (tgt := 111) hx hb dX6_revel_56 (by decide) (fun hc => ?_) (fun hc => ?_)
      · have hf := iteF hf hc
        exact B111 M x1 H locs ls hf hw (lv_sub hl [0, 1] rfl)
      · have hf := iteT hf hc
        refine lv_aload_n hx hb dX6_revel_59 rfl (lv_at hl 0 rfl) ?_
        obtain ⟨r2, M3, hr3, hf⟩ := bnd2S hf
        refine q_callV (rest := []) (st1 := [.int r2]) [] ⟨hx, hb, hml, hown, hts⟩ (c_X6_readsPart hr3) (cwV 0 hts gX6_revel_X6_readsPart rfl rfl rfl (by decide +kernel) ⟨Nat.le_of_ble_eq_true rfl, Nat.le_of_ble_eq_true rfl⟩) hw ma_0 rfl rfl hl.1 rfl (Nat.le_of_ble_eq_true rfl) dX6_revel_60 ⟨Nat.zero_le _, Nat.zero_le _⟩ rfl (fun H locs hw => ?_)
        refine lv_if_eq (tgt := 111) hx hb dX6_revel_63 (by decide) (fun hc => ?_) (fun hc => ?_)
        · have hf := iteT hf hc
          exact B111 M3 x1 H locs ls hf hw (lv_sub hl [0, 1] rfl)
        · have hf := iteF hf hc
          refine lv_aload_n hx hb dX6_revel_66 rfl (lv_at hl 0 rfl) ?_
          obtain ⟨r4, hr4, hf⟩ := bndS hf
          refine q_callV (rest := []) (st1 := [.int r4]) [] ⟨hx, hb, hml, hown, hts⟩ (c_X6_stops hr4) (cwV 0 hts gX6_revel_X6_stops rfl rfl rfl (by decide +kernel) ⟨Nat.le_of_ble_eq_true rfl, Nat.le_of_ble_eq_true rfl⟩) hw ma_0 rfl rfl hl.1 rfl (Nat.le_of_ble_eq_true rfl) dX6_revel_67 ⟨Nat.zero_le _, Nat.zero_le _⟩ rfl (fun H locs hw => ?_)
          refine lv_istore_n (lv' := [(2, .int r4), (0, .ref (ad 0)), (1, .int x1)]) hx hb dX6_revel_70 rfl hl (by decide) rfl (fun ls hl => ?_)
          refine lv_iload_n hx hb dX6_revel_71 rfl (lv_at hl 0 rfl) ?_
          refine lv_if_le (tgt := 94) hx hb dX6_revel_72 (by decide) (fun hc => ?_) (fun hc => ?_)
          · have hf := iteT hf hc
            refine lv_aload_n hx hb dX6_revel_94 rfl (lv_at hl 1 rfl) ?_
            obtain ⟨M5, hr5, hf⟩ := bndS hf
            refine q_callV (rest := []) (st1 := []) [] ⟨hx, hb, hml, hown, hts⟩ (c_X6_happens hr5) (cwV 0 hts gX6_revel_X6_happens rfl rfl rfl (by decide +kernel) ⟨Nat.le_of_ble_eq_true rfl, Nat.le_of_ble_eq_true rfl⟩) hw ma_0 rfl rfl hl.1 rfl (Nat.le_of_ble_eq_true rfl) dX6_revel_95 ⟨Nat.zero_le _, Nat.zero_le _⟩ rfl (fun H locs hw => ?_)
            obtain ⟨v6, hv6, hf⟩ := nmE hf
            refine lv_iinc (v := v6) (lv' := [(1, .int v6), (2, .int r4), (0, .ref (ad 0))]) hx hb dX6_revel_98 hl (k := 2) rfl (by rw [hv6]; rfl) (by decide) rfl (fun ls hl => ?_)
            refine lv_aload_n hx hb dX6_revel_101 rfl (lv_at hl 2 rfl) ?_
            refine lv_bipush (v := 59) hx hb dX6_revel_102 (by decide) ?_
            obtain ⟨r7, M8, hr8, hf⟩ := bnd2S hf
            refine q_callV (rest := []) (st1 := [.int r7]) [.int 59] ⟨hx, hb, hml, hown, hts⟩ (c_X6_takes hr8) (cwV 1 hts gX6_revel_X6_takes rfl rfl rfl (by decide +kernel) ⟨Nat.le_of_ble_eq_true rfl, Nat.le_of_ble_eq_true rfl⟩) hw ma_0 rfl rfl hl.1 rfl (Nat.le_of_ble_eq_true rfl) dX6_revel_104 ⟨Nat.zero_le _, Nat.zero_le _⟩ rfl (fun H locs hw => ?_)
            refine lv_pop hx hb dX6_revel_107 rfl ?_
            exact B108 M8 v6 H locs ls hf hw (lv_sub hl [2, 0] rfl)
          · have hf := iteF hf hc
            refine lv_aload_n hx hb dX6_revel_75 rfl (lv_at hl 1 rfl) ?_
            refine q_get hx hb hts hiX6 hown hw 0 ma_0 rfl 1 (by decide) (hts (.fieldLink RX6 7 "LaceRanksModel" "s" "[I") (by decide +kernel)) rfl dX6_revel_76 ?_
            refine lv_bipush (v := 8) hx hb dX6_revel_79 (by decide) ?_
            refine lv_iload_n hx hb dX6_revel_81 rfl (lv_at hl 2 rfl) ?_
            obtain ⟨hg, hf⟩ := gdE hf
            obtain ⟨M9, hM9, hf⟩ := nmE hf
            refine q_iast hx hb hw 1 ma_1 (inb_in hg) dX6_revel_82 (ms_1.trans (congrArg (fun z => (mws cI ad z)) hM9.symm)) (fun H locs hw => ?_)
            refine lv_aload_n hx hb dX6_revel_83 rfl (lv_at hl 1 rfl) ?_
            refine q_get hx hb hts hiX6 hown hw 0 ma_0 rfl 1 (by decide) (hts (.fieldLink RX6 7 "LaceRanksModel" "s" "[I") (by decide +kernel)) rfl dX6_revel_84 ?_
            refine lv_bipush (v := 9) hx hb dX6_revel_87 (by decide) ?_
            refine lv_iload_n hx hb dX6_revel_89 rfl (lv_at hl 0 rfl) ?_
            obtain ⟨hg, hf⟩ := gdE hf
            obtain ⟨M10, hM10, hf⟩ := nmE hf
            refine q_iast hx hb hw 1 ma_1 (inb_in hg) dX6_revel_90 (ms_1.trans (congrArg (fun z => (mws cI ad z)) hM10.symm)) (fun H locs hw => ?_)
            refine lv_goto (tgt := 108) hx hb dX6_revel_91 (by decide) ?_
            exact B108 M10 x1 H locs ls hf hw (lv_sub hl [1, 2] rfl)
  have B13 : ∀ (M : MS) (y0 : Int32) (H : Heap) (locs : List Loc) (ls : Array Slot), f_X6_revel_b13 M y0 = some (r, M') → WH D cI cR A (mws cI ad M) s H locs → lv_has ls 3 [(0, .ref (ad 0))] → W p l e (headSpec wsX6_revel ({ frames := 5, cells := 0, slots := 0, locals := 120 })).room s m ([.ref (ad 0)] : List Value).toArray below meth c H locs 0 0 (MQ below (QV (some (.int r)) D A (mws cI ad M')) (([.ref (ad 0)] : List Value)).toArray s 0 0 A) (F0 m 13 ls [.int y0, .ref (ad 0)]) := by
    intro M y0 H locs ls hf hw hl
    unfold f_X6_revel_b13 at hf
    obtain ⟨r1, M2, hr2, hf⟩ := bnd2S hf
    refine q_callV (rest := []) (st1 := [.int r1]) [.int y0] ⟨hx, hb, hml, hown, hts⟩ (c_X6_holds hr2) (cwV 1 hts gX6_revel_X6_holds rfl rfl rfl (by decide +kernel) ⟨Nat.le_of_ble_eq_true rfl, Nat.le_of_ble_eq_true rfl⟩) hw ma_0 rfl rfl hl.1 rfl (Nat.le_of_ble_eq_true rfl) dX6_revel_13 ⟨Nat.zero_le _, Nat.zero_le _⟩ rfl (fun H locs hw => ?_)
    refine lv_if_ne (tgt := 21) hx hb dX6_revel_16 (by decide) (fun hc => ?_) (fun hc => ?_)
    · have hf := iteF hf hc
      refine lv_aload_n hx hb dX6_revel_21 rfl (lv_at hl 0 rfl) ?_
      obtain ⟨M3, hr3, hf⟩ := bndS hf
      refine q_callV (rest := []) (st1 := []) [] ⟨hx, hb, hml, hown, hts⟩ (c_X6_save hr3) (cwV 0 hts gX6_revel_X6_save rfl rfl rfl (by decide +kernel) ⟨Nat.le_of_ble_eq_true rfl, Nat.le_of_ble_eq_true rfl⟩) hw ma_0 rfl rfl hl.1 rfl (Nat.le_of_ble_eq_true rfl) dX6_revel_22 ⟨Nat.zero_le _, Nat.zero_le _⟩ rfl (fun H locs hw => ?_)
      refine lv_aload_n hx hb dX6_revel_25 rfl (lv_at hl 0 rfl) ?_
      refine q_get hx hb hts hiX6 hown hw 0 ma_0 rfl 1 (by decide) (hts (.fieldLink RX6 7 "LaceRanksModel" "s" "[I") (by decide +kernel)) rfl dX6_revel_26 ?_
      refine lv_bipush (v := 8) hx hb dX6_revel_29 (by decide) ?_
      refine lv_iconst (v := (-1)) hx hb dX6_revel_31 (by decide) ?_
      obtain ⟨hg, hf⟩ := gdE hf
      obtain ⟨M4, hM4, hf⟩ := nmE hf
      refine q_iast hx hb hw 1 ma_1 (inb_in hg) dX6_revel_32 (ms_1.trans (congrArg (fun z => (mws cI ad z)) hM4.symm)) (fun H locs hw => ?_)
      refine lv_aload_n hx hb dX6_revel_33 rfl (lv_at hl 0 rfl) ?_
      refine q_get hx hb hts hiX6 hown hw 0 ma_0 rfl 1 (by decide) (hts (.fieldLink RX6 7 "LaceRanksModel" "s" "[I") (by decide +kernel)) rfl dX6_revel_34 ?_
      refine lv_bipush (v := 9) hx hb dX6_revel_37 (by decide) ?_
      refine lv_iconst (v := (-1)) hx hb dX6_revel_39 (by decide) ?_
      obtain ⟨hg, hf⟩ := gdE hf
      obtain ⟨M5, hM5, hf⟩ := nmE hf
      refine q_iast hx hb hw 1 ma_1 (inb_in hg) dX6_revel_40 (ms_1.trans (congrArg (fun z => (mws cI ad z)) hM5.symm)) (fun H locs hw => ?_)
      refine lv_aload_n hx hb dX6_revel_41 rfl (lv_at hl 0 rfl) ?_
      refine lv_iconst (v := 0) hx hb dX6_revel_42 (by decide) ?_
      obtain ⟨M6, hM6, hf⟩ := nmE hf
      refine q_put (ty := .int) hx hb hts hiX6 tyX6 tyX6_ok nmX6 hown hw 0 ma_0 rfl 6 (by decide) (hts (.fieldLink RX6 124 "LaceRanksModel" "at" "I") (by decide +kernel)) rfl (by decide +kernel) rfl rfl (Nat.le_of_ble_eq_true rfl) dX6_revel_43 (ms_0_6.trans (congrArg (fun z => (mws cI ad z)) hM6.symm)) (fun H locs hw => ?_)
      refine lv_iconst (v := 0) hx hb dX6_revel_46 (by decide) ?_
      refine lv_istore_n (lv' := [(1, .int 0), (0, .ref (ad 0))]) hx hb dX6_revel_47 rfl hl (by decide) rfl (fun ls hl => ?_)
      exact L48 fuelN M6 0 H locs ls hf hw (lv_sub hl [1, 0] rfl)
    · have hf := iteT hf hc
      refine lv_iconst (v := 0) hx hb dX6_revel_19 (by decide) ?_
      cases hf
      exact q_iret hx hb hr hlocks hw dX6_revel_20
  refine lv_aload_n hx hb dX6_revel_0 rfl (lv_at hl 0 rfl) ?_
  refine lv_aload_n hx hb dX6_revel_1 rfl (lv_at hl 0 rfl) ?_
  obtain ⟨r1, M2, hr2, hf⟩ := bnd2S hf
  refine q_callV (rest := [.ref (ad 0)]) (st1 := [.int r1, .ref (ad 0)]) [] ⟨hx, hb, hml, hown, hts⟩ (c_X6_isCarnival hr2) (cwV 0 hts gX6_revel_X6_isCarnival rfl rfl rfl (by decide +kernel) ⟨Nat.le_of_ble_eq_true rfl, Nat.le_of_ble_eq_true rfl⟩) hw ma_0 rfl rfl hl.1 rfl (Nat.le_of_ble_eq_true rfl) dX6_revel_2 ⟨Nat.zero_le _, Nat.zero_le _⟩ rfl (fun H locs hw => ?_)
  refine lv_if_eq (tgt := 12) hx hb dX6_revel_5 (by decide) (fun hc => ?_) (fun hc => ?_)
  · have hf := iteT hf hc
    refine lv_iconst (v := 1) hx hb dX6_revel_12 (by decide) ?_
    exact B13 M2 1 H locs ls hf hw (lv_sub hl [0] rfl)
  · have hf := iteF hf hc
    refine lv_iconst (v := 0) hx hb dX6_revel_8 (by decide) ?_
    refine lv_goto (tgt := 13) hx hb dX6_revel_9 (by decide) ?_
    exact B13 M2 0 H locs ls hf hw (lv_sub hl [0] rfl)

def f_X6_stopped_b15    (M : MS) (x1 : Int32) (y0 : Int32) : Option (Int32 × MS) := bnd2 (f_X6_holds M y0) (fun r1 M2 => (if r1 = 0 then some (0, M2) else gd (inb (8 + x1) 952) (nm (M2.1 0 (8 + x1).toNatClampNeg) (fun v3 => some (v3, M2)))))
def f_X6_stopped (M : MS)  (a1 : Int32) : Option (Int32 × MS) := bnd (f_X6_in a1 0 1) (fun r1 => (if r1 = 0 then f_X6_stopped_b15 M a1 1 else f_X6_stopped_b15 M a1 0))
set_option maxHeartbeats 4000000 in
set_option maxRecDepth 100000 in
theorem c_X6_stopped {l : Launch} {D : va_G} {cI cR : ClassId} {ad : Nat → Nat} {A : Nat → Prop} {M : MS} {M' : MS} {a1 : Int32} {r : Int32}  (hf : f_X6_stopped M a1 = some (r, M')) : MC l yX6_stopped wsX6_stopped 1 22 D cI cR A [.ref (ad 0), .int a1] (mws cI ad M) (some (.int r)) (mws cI ad M') := by
  refine Met.ofW (cc := cX6_stopped) (maxL := 2) (ret := (some .int)) (by decide) rfl ?_
  intro p e s m args below meth c s₁ B hml hv
  obtain ⟨rfl, hw⟩ := q_start hv
  have hx := B.exec
  have hb := B.bytes
  have hr := B.returns
  have hts := atoms_spec (ws := wsX6_stopped) B.pre
  have hown : s.vm.findClass RX6 = some m.cls := findClass_of_methodNamed B.named
  have hlocks := B.notSynchronized
  have hiX6 : ∀ w ∈ wsX60, w ∈ wsX6_stopped := by decide +kernel
  have hl := lv_entry ([.ref (ad 0), .int a1]) (n := 2) (Nat.le_of_ble_eq_true rfl)
  rw [lg_entry_eq]
  generalize (lg_sl ([.ref (ad 0), .int a1]) ++ List.replicate (2 - (lg_sl ([.ref (ad 0), .int a1])).length) Slot.unset).toArray = ls at hl ⊢
  have hl : lv_has ls 2 [(0, .ref (ad 0)), (1, .int a1)] := hl
  unfold f_X6_stopped at hf
  obtain ⟨H, eH⟩ : ∃ H, H = s.heap := ⟨_, rfl⟩
  obtain ⟨locs, eL⟩ : ∃ L : List Loc, L = [] := ⟨_, rfl⟩
  rw [← eH, ← eL] at hw ⊢
  clear eH eL
  have B15 : ∀ (M : MS) (x1 : Int32) (y0 : Int32) (H : Heap) (locs : List Loc) (ls : Array Slot), f_X6_stopped_b15 M x1 y0 = some (r, M') → WH D cI cR A (mws cI ad M) s H locs → lv_has ls 2 [(0, .ref (ad 0)), (1, .int x1)] → W p l e (headSpec wsX6_stopped ({ frames := 1, cells := 0, slots := 0, locals := 22 })).room s m ([.ref (ad 0), .int a1] : List Value).toArray below meth c H locs 0 0 (MQ below (QV (some (.int r)) D A (mws cI ad M')) (([.ref (ad 0), .int a1] : List Value)).toArray s 0 0 A) (F0 m 15 ls [.int y0, .ref (ad 0)]) := by
    intro M x1 y0 H locs ls hf hw hl
    unfold f_X6_stopped_b15 at hf
    obtain ⟨r1, M2, hr2, hf⟩ := bnd2S hf
    refine q_callV (rest := []) (st1 := [.int r1]) [.int y0] ⟨hx, hb, hml, hown, hts⟩ (c_X6_holds hr2) (cwV 1 hts gX6_stopped_X6_holds rfl rfl rfl (by decide +kernel) ⟨Nat.le_of_ble_eq_true rfl, Nat.le_of_ble_eq_true rfl⟩) hw ma_0 rfl rfl hl.1 rfl (Nat.le_of_ble_eq_true rfl) dX6_stopped_15 ⟨Nat.zero_le _, Nat.zero_le _⟩ rfl (fun H locs hw => ?_)
    refine lv_if_eq (tgt := 33) hx hb dX6_stopped_18 (by decide) (fun hc => ?_) (fun hc => ?_)
    · have hf := iteT hf hc
      refine lv_iconst (v := 0) hx hb dX6_stopped_33 (by decide) ?_
      cases hf
      exact q_iret hx hb hr hlocks hw dX6_stopped_34
    · have hf := iteF hf hc
      refine lv_aload_n hx hb dX6_stopped_21 rfl (lv_at hl 0 rfl) ?_
      refine q_get hx hb hts hiX6 hown hw 0 ma_0 rfl 1 (by decide) (hts (.fieldLink RX6 7 "LaceRanksModel" "s" "[I") (by decide +kernel)) rfl dX6_stopped_22 ?_
      refine lv_bipush (v := 8) hx hb dX6_stopped_25 (by decide) ?_
      refine lv_iload_n hx hb dX6_stopped_27 rfl (lv_at hl 1 rfl) ?_
      refine lv_iadd hx hb dX6_stopped_28 ?_
      obtain ⟨hg, hf⟩ := gdE hf
      obtain ⟨v3, hv3, hf⟩ := nmE hf
      refine q_iald hx hb hw 1 ma_1 (inb_in hg) dX6_stopped_29 ?_
      refine q_is hv3 ?_
      refine lv_goto (tgt := 34) hx hb dX6_stopped_30 (by decide) ?_
      cases hf
      exact q_iret hx hb hr hlocks hw dX6_stopped_34
  refine lv_aload_n hx hb dX6_stopped_0 rfl (lv_at hl 0 rfl) ?_
  refine lv_iload_n hx hb dX6_stopped_1 rfl (lv_at hl 1 rfl) ?_
  refine lv_iconst (v := 0) hx hb dX6_stopped_2 (by decide) ?_
  refine lv_iconst (v := 1) hx hb dX6_stopped_3 (by decide) ?_
  obtain ⟨r1, hr1, hf⟩ := bndS hf
  refine q_callS (rest := [.ref (ad 0)]) (st1 := [.int r1, .ref (ad 0)]) [.int a1, .int 0, .int 1] ⟨hx, hb, hml, hown, hts⟩ (c_X6_in hr1) (va_cwS 3 hts gX6_stopped_X6_in rfl rfl rfl (by decide +kernel) ⟨Nat.le_of_ble_eq_true rfl, Nat.le_of_ble_eq_true rfl⟩) hw rfl hl.1 rfl (Nat.le_of_ble_eq_true rfl) dX6_stopped_4 ⟨Nat.zero_le _, Nat.zero_le _⟩ rfl (fun H locs hw => ?_)
  refine lv_if_eq (tgt := 14) hx hb dX6_stopped_7 (by decide) (fun hc => ?_) (fun hc => ?_)
  · have hf := iteT hf hc
    refine lv_iconst (v := 1) hx hb dX6_stopped_14 (by decide) ?_
    exact B15 M a1 1 H locs ls hf hw (lv_sub hl [0, 1] rfl)
  · have hf := iteF hf hc
    refine lv_iconst (v := 0) hx hb dX6_stopped_10 (by decide) ?_
    refine lv_goto (tgt := 15) hx hb dX6_stopped_11 (by decide) ?_
    exact B15 M a1 0 H locs ls hf hw (lv_sub hl [0, 1] rfl)

def f_X6_undo_b13    (M : MS) (y0 : Int32) : Option (Int32 × MS) := bnd2 (f_X6_holds M y0) (fun r1 M2 => (if r1 = 0 then some (0, M2) else bnd (f_X6_copies M2 (M2.1 3 1) 0) (fun M3 => nm (upMS M3 3 1 ((M3.1 3 1) - 1)) (fun M4 => some (M4.1 3 1, M4)))))
def f_X6_undo (M : MS)   : Option (Int32 × MS) := (if (M.1 3 1) ≤ 0 then f_X6_undo_b13 M 1 else f_X6_undo_b13 M 0)
set_option maxHeartbeats 4000000 in
set_option maxRecDepth 100000 in
theorem c_X6_undo {l : Launch} {D : va_G} {cI cR : ClassId} {ad : Nat → Nat} {A : Nat → Prop} {M : MS} {M' : MS}  {r : Int32}  (hf : f_X6_undo M = some (r, M')) : MC l yX6_undo wsX6_undo 1 23 D cI cR A [.ref (ad 0)] (mws cI ad M) (some (.int r)) (mws cI ad M') := by
  refine Met.ofW (cc := cX6_undo) (maxL := 1) (ret := (some .int)) (by decide) rfl ?_
  intro p e s m args below meth c s₁ B hml hv
  obtain ⟨rfl, hw⟩ := q_start hv
  have hx := B.exec
  have hb := B.bytes
  have hr := B.returns
  have hts := atoms_spec (ws := wsX6_undo) B.pre
  have hown : s.vm.findClass RX6 = some m.cls := findClass_of_methodNamed B.named
  have hlocks := B.notSynchronized
  have hiX6 : ∀ w ∈ wsX60, w ∈ wsX6_undo := by decide +kernel
  have hl := lv_entry ([.ref (ad 0)]) (n := 1) (Nat.le_of_ble_eq_true rfl)
  rw [lg_entry_eq]
  generalize (lg_sl ([.ref (ad 0)]) ++ List.replicate (1 - (lg_sl ([.ref (ad 0)])).length) Slot.unset).toArray = ls at hl ⊢
  have hl : lv_has ls 1 [(0, .ref (ad 0))] := hl
  unfold f_X6_undo at hf
  obtain ⟨H, eH⟩ : ∃ H, H = s.heap := ⟨_, rfl⟩
  obtain ⟨locs, eL⟩ : ∃ L : List Loc, L = [] := ⟨_, rfl⟩
  rw [← eH, ← eL] at hw ⊢
  clear eH eL
  have B13 : ∀ (M : MS) (y0 : Int32) (H : Heap) (locs : List Loc) (ls : Array Slot), f_X6_undo_b13 M y0 = some (r, M') → WH D cI cR A (mws cI ad M) s H locs → lv_has ls 1 [(0, .ref (ad 0))] → W p l e (headSpec wsX6_undo ({ frames := 1, cells := 0, slots := 0, locals := 23 })).room s m ([.ref (ad 0)] : List Value).toArray below meth c H locs 0 0 (MQ below (QV (some (.int r)) D A (mws cI ad M')) (([.ref (ad 0)] : List Value)).toArray s 0 0 A) (F0 m 13 ls [.int y0, .ref (ad 0)]) := by
    intro M y0 H locs ls hf hw hl
    unfold f_X6_undo_b13 at hf
    obtain ⟨r1, M2, hr2, hf⟩ := bnd2S hf
    refine q_callV (rest := []) (st1 := [.int r1]) [.int y0] ⟨hx, hb, hml, hown, hts⟩ (c_X6_holds hr2) (cwV 1 hts gX6_undo_X6_holds rfl rfl rfl (by decide +kernel) ⟨Nat.le_of_ble_eq_true rfl, Nat.le_of_ble_eq_true rfl⟩) hw ma_0 rfl rfl hl.1 rfl (Nat.le_of_ble_eq_true rfl) dX6_undo_13 ⟨Nat.zero_le _, Nat.zero_le _⟩ rfl (fun H locs hw => ?_)
    refine lv_if_ne (tgt := 21) hx hb dX6_undo_16 (by decide) (fun hc => ?_) (fun hc => ?_)
    · have hf := iteF hf hc
      refine lv_aload_n hx hb dX6_undo_21 rfl (lv_at hl 0 rfl) ?_
      refine lv_aload_n hx hb dX6_undo_22 rfl (lv_at hl 0 rfl) ?_
      refine q_get hx hb hts hiX6 hown hw 0 ma_0 rfl 2 (by decide) (hts (.fieldLink RX6 66 "LaceRanksModel" "saved" "I") (by decide +kernel)) rfl dX6_undo_23 ?_
      refine lv_iconst (v := 0) hx hb dX6_undo_26 (by decide) ?_
      obtain ⟨M3, hr3, hf⟩ := bndS hf
      refine q_callV (rest := []) (st1 := []) [.int (M2.1 3 1), .int 0] ⟨hx, hb, hml, hown, hts⟩ (c_X6_copies hr3) (cwV 2 hts gX6_undo_X6_copies rfl rfl rfl (by decide +kernel) ⟨Nat.le_of_ble_eq_true rfl, Nat.le_of_ble_eq_true rfl⟩) hw ma_0 rfl rfl hl.1 rfl (Nat.le_of_ble_eq_true rfl) dX6_undo_27 ⟨Nat.zero_le _, Nat.zero_le _⟩ rfl (fun H locs hw => ?_)
      refine lv_aload_n hx hb dX6_undo_30 rfl (lv_at hl 0 rfl) ?_
      refine lv_dup hx hb dX6_undo_31 rfl ?_
      refine q_get hx hb hts hiX6 hown hw 0 ma_0 rfl 2 (by decide) (hts (.fieldLink RX6 66 "LaceRanksModel" "saved" "I") (by decide +kernel)) rfl dX6_undo_32 ?_
      refine lv_iconst (v := 1) hx hb dX6_undo_35 (by decide) ?_
      refine lv_isub hx hb dX6_undo_36 ?_
      obtain ⟨M4, hM4, hf⟩ := nmE hf
      refine q_put (ty := .int) hx hb hts hiX6 tyX6 tyX6_ok nmX6 hown hw 0 ma_0 rfl 2 (by decide) (hts (.fieldLink RX6 66 "LaceRanksModel" "saved" "I") (by decide +kernel)) rfl (by decide +kernel) rfl rfl (Nat.le_of_ble_eq_true rfl) dX6_undo_37 (ms_0_2.trans (congrArg (fun z => (mws cI ad z)) hM4.symm)) (fun H locs hw => ?_)
      refine lv_aload_n hx hb dX6_undo_40 rfl (lv_at hl 0 rfl) ?_
      refine q_get hx hb hts hiX6 hown hw 0 ma_0 rfl 2 (by decide) (hts (.fieldLink RX6 66 "LaceRanksModel" "saved" "I") (by decide +kernel)) rfl dX6_undo_41 ?_
      cases hf
      exact q_iret hx hb hr hlocks hw dX6_undo_44
    · have hf := iteT hf hc
      refine lv_iconst (v := 0) hx hb dX6_undo_19 (by decide) ?_
      cases hf
      exact q_iret hx hb hr hlocks hw dX6_undo_20
  refine lv_aload_n hx hb dX6_undo_0 rfl (lv_at hl 0 rfl) ?_
  refine lv_aload_n hx hb dX6_undo_1 rfl (lv_at hl 0 rfl) ?_
  refine q_get hx hb hts hiX6 hown hw 0 ma_0 rfl 2 (by decide) (hts (.fieldLink RX6 66 "LaceRanksModel" "saved" "I") (by decide +kernel)) rfl dX6_undo_2 ?_
  refine lv_if_le (tgt := 12) hx hb dX6_undo_5 (by decide) (fun hc => ?_) (fun hc => ?_)
  · have hf := iteT hf hc
    refine lv_iconst (v := 1) hx hb dX6_undo_12 (by decide) ?_
    exact B13 M 1 H locs ls hf hw (lv_sub hl [0] rfl)
  · have hf := iteF hf hc
    refine lv_iconst (v := 0) hx hb dX6_undo_8 (by decide) ?_
    refine lv_goto (tgt := 13) hx hb dX6_undo_9 (by decide) ?_
    exact B13 M 0 H locs ls hf hw (lv_sub hl [0] rfl)

def f_X6_keep (M : MS)   : Option (Int32 × MS) := nm (upMS M 3 0 0) (fun M1 => bnd (f_X6_copies M1 0 7) (fun M2 => nm (upMS M2 3 2 1) (fun M3 => gd (inb 0 952) (nm (M3.1 0 (0 : Int32).toNatClampNeg) (fun v4 => some (v4, M3))))))
set_option maxHeartbeats 4000000 in
set_option maxRecDepth 100000 in
theorem c_X6_keep {l : Launch} {D : va_G} {cI cR : ClassId} {ad : Nat → Nat} {A : Nat → Prop} {M : MS} {M' : MS}  {r : Int32}  (hf : f_X6_keep M = some (r, M')) : MC l yX6_keep wsX6_keep 1 23 D cI cR A [.ref (ad 0)] (mws cI ad M) (some (.int r)) (mws cI ad M') := by
  refine Met.ofW (cc := cX6_keep) (maxL := 1) (ret := (some .int)) (by decide) rfl ?_
  intro p e s m args below meth c s₁ B hml hv
  obtain ⟨rfl, hw⟩ := q_start hv
  have hx := B.exec
  have hb := B.bytes
  have hr := B.returns
  have hts := atoms_spec (ws := wsX6_keep) B.pre
  have hown : s.vm.findClass RX6 = some m.cls := findClass_of_methodNamed B.named
  have hlocks := B.notSynchronized
  have hiX6 : ∀ w ∈ wsX60, w ∈ wsX6_keep := by decide +kernel
  have hl := lv_entry ([.ref (ad 0)]) (n := 1) (Nat.le_of_ble_eq_true rfl)
  rw [lg_entry_eq]
  generalize (lg_sl ([.ref (ad 0)]) ++ List.replicate (1 - (lg_sl ([.ref (ad 0)])).length) Slot.unset).toArray = ls at hl ⊢
  have hl : lv_has ls 1 [(0, .ref (ad 0))] := hl
  unfold f_X6_keep at hf
  obtain ⟨H, eH⟩ : ∃ H, H = s.heap := ⟨_, rfl⟩
  obtain ⟨locs, eL⟩ : ∃ L : List Loc, L = [] := ⟨_, rfl⟩
  rw [← eH, ← eL] at hw ⊢
  clear eH eL
  refine lv_aload_n hx hb dX6_keep_0 rfl (lv_at hl 0 rfl) ?_
  refine lv_iconst (v := 0) hx hb dX6_keep_1 (by decide) ?_
  obtain ⟨M1, hM1, hf⟩ := nmE hf
  refine q_put (ty := .int) hx hb hts hiX6 tyX6 tyX6_ok nmX6 hown hw 0 ma_0 rfl 0 (by decide) (hts (.fieldLink RX6 19 "LaceRanksModel" "thrown" "I") (by decide +kernel)) rfl (by decide +kernel) rfl rfl (Nat.le_of_ble_eq_true rfl) dX6_keep_2 (ms_0_0.trans (congrArg (fun z => (mws cI ad z)) hM1.symm)) (fun H locs hw => ?_)
  refine lv_aload_n hx hb dX6_keep_5 rfl (lv_at hl 0 rfl) ?_
  refine lv_iconst (v := 0) hx hb dX6_keep_6 (by decide) ?_
  refine lv_bipush (v := 7) hx hb dX6_keep_7 (by decide) ?_
  obtain ⟨M2, hr2, hf⟩ := bndS hf
  refine q_callV (rest := []) (st1 := []) [.int 0, .int 7] ⟨hx, hb, hml, hown, hts⟩ (c_X6_copies hr2) (cwV 2 hts gX6_keep_X6_copies rfl rfl rfl (by decide +kernel) ⟨Nat.le_of_ble_eq_true rfl, Nat.le_of_ble_eq_true rfl⟩) hw ma_0 rfl rfl hl.1 rfl (Nat.le_of_ble_eq_true rfl) dX6_keep_9 ⟨Nat.zero_le _, Nat.zero_le _⟩ rfl (fun H locs hw => ?_)
  refine lv_aload_n hx hb dX6_keep_12 rfl (lv_at hl 0 rfl) ?_
  refine lv_iconst (v := 1) hx hb dX6_keep_13 (by decide) ?_
  obtain ⟨M3, hM3, hf⟩ := nmE hf
  refine q_put (ty := .boolean) hx hb hts hiX6 tyX6 tyX6_ok nmX6 hown hw 0 ma_0 rfl 3 (by decide) (hts (.fieldLink RX6 161 "LaceRanksModel" "isKept" "Z") (by decide +kernel)) rfl (by decide +kernel) nb_1 rfl (Nat.le_of_ble_eq_true rfl) dX6_keep_14 (ms_0_3.trans (congrArg (fun z => (mws cI ad z)) hM3.symm)) (fun H locs hw => ?_)
  refine lv_aload_n hx hb dX6_keep_17 rfl (lv_at hl 0 rfl) ?_
  refine q_get hx hb hts hiX6 hown hw 0 ma_0 rfl 1 (by decide) (hts (.fieldLink RX6 7 "LaceRanksModel" "s" "[I") (by decide +kernel)) rfl dX6_keep_18 ?_
  refine lv_iconst (v := 0) hx hb dX6_keep_21 (by decide) ?_
  obtain ⟨hg, hf⟩ := gdE hf
  obtain ⟨v4, hv4, hf⟩ := nmE hf
  refine q_iald hx hb hw 1 ma_1 (inb_in hg) dX6_keep_22 ?_
  refine q_is hv4 ?_
  cases hf
  exact q_iret hx hb hr hlocks hw dX6_keep_23

def f_X6_restore_b13    (M : MS) (y0 : Int32) : Option (Int32 × MS) := bnd2 (f_X6_holds M y0) (fun r1 M2 => (if r1 = 0 then some (0, M2) else bnd (f_X6_save M2) (fun M3 => bnd (f_X6_copies M3 7 0) (fun M4 => gd (inb 0 952) (nm (M4.1 0 (0 : Int32).toNatClampNeg) (fun v5 => some (v5, M4)))))))
def f_X6_restore (M : MS)   : Option (Int32 × MS) := (if (M.1 3 2) = 0 then f_X6_restore_b13 M 1 else f_X6_restore_b13 M 0)
set_option maxHeartbeats 4000000 in
set_option maxRecDepth 100000 in
theorem c_X6_restore {l : Launch} {D : va_G} {cI cR : ClassId} {ad : Nat → Nat} {A : Nat → Prop} {M : MS} {M' : MS}  {r : Int32}  (hf : f_X6_restore M = some (r, M')) : MC l yX6_restore wsX6_restore 2 44 D cI cR A [.ref (ad 0)] (mws cI ad M) (some (.int r)) (mws cI ad M') := by
  refine Met.ofW (cc := cX6_restore) (maxL := 1) (ret := (some .int)) (by decide) rfl ?_
  intro p e s m args below meth c s₁ B hml hv
  obtain ⟨rfl, hw⟩ := q_start hv
  have hx := B.exec
  have hb := B.bytes
  have hr := B.returns
  have hts := atoms_spec (ws := wsX6_restore) B.pre
  have hown : s.vm.findClass RX6 = some m.cls := findClass_of_methodNamed B.named
  have hlocks := B.notSynchronized
  have hiX6 : ∀ w ∈ wsX60, w ∈ wsX6_restore := by decide +kernel
  have hl := lv_entry ([.ref (ad 0)]) (n := 1) (Nat.le_of_ble_eq_true rfl)
  rw [lg_entry_eq]
  generalize (lg_sl ([.ref (ad 0)]) ++ List.replicate (1 - (lg_sl ([.ref (ad 0)])).length) Slot.unset).toArray = ls at hl ⊢
  have hl : lv_has ls 1 [(0, .ref (ad 0))] := hl
  unfold f_X6_restore at hf
  obtain ⟨H, eH⟩ : ∃ H, H = s.heap := ⟨_, rfl⟩
  obtain ⟨locs, eL⟩ : ∃ L : List Loc, L = [] := ⟨_, rfl⟩
  rw [← eH, ← eL] at hw ⊢
  clear eH eL
  have B13 : ∀ (M : MS) (y0 : Int32) (H : Heap) (locs : List Loc) (ls : Array Slot), f_X6_restore_b13 M y0 = some (r, M') → WH D cI cR A (mws cI ad M) s H locs → lv_has ls 1 [(0, .ref (ad 0))] → W p l e (headSpec wsX6_restore ({ frames := 2, cells := 0, slots := 0, locals := 44 })).room s m ([.ref (ad 0)] : List Value).toArray below meth c H locs 0 0 (MQ below (QV (some (.int r)) D A (mws cI ad M')) (([.ref (ad 0)] : List Value)).toArray s 0 0 A) (F0 m 13 ls [.int y0, .ref (ad 0)]) := by
    intro M y0 H locs ls hf hw hl
    unfold f_X6_restore_b13 at hf
    obtain ⟨r1, M2, hr2, hf⟩ := bnd2S hf
    refine q_callV (rest := []) (st1 := [.int r1]) [.int y0] ⟨hx, hb, hml, hown, hts⟩ (c_X6_holds hr2) (cwV 1 hts gX6_restore_X6_holds rfl rfl rfl (by decide +kernel) ⟨Nat.le_of_ble_eq_true rfl, Nat.le_of_ble_eq_true rfl⟩) hw ma_0 rfl rfl hl.1 rfl (Nat.le_of_ble_eq_true rfl) dX6_restore_13 ⟨Nat.zero_le _, Nat.zero_le _⟩ rfl (fun H locs hw => ?_)
    refine lv_if_ne (tgt := 21) hx hb dX6_restore_16 (by decide) (fun hc => ?_) (fun hc => ?_)
    · have hf := iteF hf hc
      refine lv_aload_n hx hb dX6_restore_21 rfl (lv_at hl 0 rfl) ?_
      obtain ⟨M3, hr3, hf⟩ := bndS hf
      refine q_callV (rest := []) (st1 := []) [] ⟨hx, hb, hml, hown, hts⟩ (c_X6_save hr3) (cwV 0 hts gX6_restore_X6_save rfl rfl rfl (by decide +kernel) ⟨Nat.le_of_ble_eq_true rfl, Nat.le_of_ble_eq_true rfl⟩) hw ma_0 rfl rfl hl.1 rfl (Nat.le_of_ble_eq_true rfl) dX6_restore_22 ⟨Nat.zero_le _, Nat.zero_le _⟩ rfl (fun H locs hw => ?_)
      refine lv_aload_n hx hb dX6_restore_25 rfl (lv_at hl 0 rfl) ?_
      refine lv_bipush (v := 7) hx hb dX6_restore_26 (by decide) ?_
      refine lv_iconst (v := 0) hx hb dX6_restore_28 (by decide) ?_
      obtain ⟨M4, hr4, hf⟩ := bndS hf
      refine q_callV (rest := []) (st1 := []) [.int 7, .int 0] ⟨hx, hb, hml, hown, hts⟩ (c_X6_copies hr4) (cwV 2 hts gX6_restore_X6_copies rfl rfl rfl (by decide +kernel) ⟨Nat.le_of_ble_eq_true rfl, Nat.le_of_ble_eq_true rfl⟩) hw ma_0 rfl rfl hl.1 rfl (Nat.le_of_ble_eq_true rfl) dX6_restore_29 ⟨Nat.zero_le _, Nat.zero_le _⟩ rfl (fun H locs hw => ?_)
      refine lv_aload_n hx hb dX6_restore_32 rfl (lv_at hl 0 rfl) ?_
      refine q_get hx hb hts hiX6 hown hw 0 ma_0 rfl 1 (by decide) (hts (.fieldLink RX6 7 "LaceRanksModel" "s" "[I") (by decide +kernel)) rfl dX6_restore_33 ?_
      refine lv_iconst (v := 0) hx hb dX6_restore_36 (by decide) ?_
      obtain ⟨hg, hf⟩ := gdE hf
      obtain ⟨v5, hv5, hf⟩ := nmE hf
      refine q_iald hx hb hw 1 ma_1 (inb_in hg) dX6_restore_37 ?_
      refine q_is hv5 ?_
      cases hf
      exact q_iret hx hb hr hlocks hw dX6_restore_38
    · have hf := iteT hf hc
      refine lv_iconst (v := 0) hx hb dX6_restore_19 (by decide) ?_
      cases hf
      exact q_iret hx hb hr hlocks hw dX6_restore_20
  refine lv_aload_n hx hb dX6_restore_0 rfl (lv_at hl 0 rfl) ?_
  refine lv_aload_n hx hb dX6_restore_1 rfl (lv_at hl 0 rfl) ?_
  refine q_get hx hb hts hiX6 hown hw 0 ma_0 rfl 3 (by decide) (hts (.fieldLink RX6 161 "LaceRanksModel" "isKept" "Z") (by decide +kernel)) rfl dX6_restore_2 ?_
  refine lv_if_eq (tgt := 12) hx hb dX6_restore_5 (by decide) (fun hc => ?_) (fun hc => ?_)
  · have hf := iteT hf hc
    refine lv_iconst (v := 1) hx hb dX6_restore_12 (by decide) ?_
    exact B13 M 1 H locs ls hf hw (lv_sub hl [0] rfl)
  · have hf := iteF hf hc
    refine lv_iconst (v := 0) hx hb dX6_restore_8 (by decide) ?_
    refine lv_goto (tgt := 13) hx hb dX6_restore_9 (by decide) ?_
    exact B13 M 0 H locs ls hf hw (lv_sub hl [0] rfl)

def f_X6_ofGuest (M : MS)  (a1 : Int32) (a2 : Int32) : Option Int32 := bnd (f_X6_standing M a1) (fun r1 => (if a2 = 5 then bnd (f_X6_worn M a1) (fun r2 => some r2) else (if a2 = 6 then bnd (f_X6_of M a1 5) (fun r3 => some r3) else (if a2 = 7 then bnd (f_X6_of M a1 6) (fun r4 => some r4) else (if a2 = 8 then (if r1 = (-1) then some (-1) else some (r1 / 16)) else (if a2 = 9 then (if r1 = (-1) then some (-1) else some (r1 - r1 / 16 * 16)) else (if a2 = 10 then bnd (f_X6_lentTo M a1) (fun r5 => some r5) else (bnd (f_X6_of M a1 a2) (fun r6 => some r6)))))))))
set_option maxHeartbeats 4000000 in
set_option maxRecDepth 100000 in
theorem c_X6_ofGuest {l : Launch} {D : va_G} {cI cR : ClassId} {ad : Nat → Nat} {A : Nat → Prop} {M : MS}  {a1 : Int32} {a2 : Int32} {r : Int32}  (hf : f_X6_ofGuest M a1 a2 = some r) : MC l yX6_ofGuest wsX6_ofGuest 2 45 D cI cR A [.ref (ad 0), .int a1, .int a2] (mws cI ad M) (some (.int r)) (mws cI ad M) := by
  refine Met.ofW (cc := cX6_ofGuest) (maxL := 4) (ret := (some .int)) (by decide) rfl ?_
  intro p e s m args below meth c s₁ B hml hv
  obtain ⟨rfl, hw⟩ := q_start hv
  have hx := B.exec
  have hb := B.bytes
  have hr := B.returns
  have hts := atoms_spec (ws := wsX6_ofGuest) B.pre
  have hown : s.vm.findClass RX6 = some m.cls := findClass_of_methodNamed B.named
  have hlocks := B.notSynchronized
  have hl := lv_entry ([.ref (ad 0), .int a1, .int a2]) (n := 4) (Nat.le_of_ble_eq_true rfl)
  rw [lg_entry_eq]
  generalize (lg_sl ([.ref (ad 0), .int a1, .int a2]) ++ List.replicate (4 - (lg_sl ([.ref (ad 0), .int a1, .int a2])).length) Slot.unset).toArray = ls at hl ⊢
  have hl : lv_has ls 4 [(0, .ref (ad 0)), (1, .int a1), (2, .int a2)] := hl
  unfold f_X6_ofGuest at hf
  obtain ⟨H, eH⟩ : ∃ H, H = s.heap := ⟨_, rfl⟩
  obtain ⟨locs, eL⟩ : ∃ L : List Loc, L = [] := ⟨_, rfl⟩
  rw [← eH, ← eL] at hw ⊢
  clear eH eL
  refine lv_aload_n hx hb dX6_ofGuest_0 rfl (lv_at hl 0 rfl) ?_
  refine lv_iload_n hx hb dX6_ofGuest_1 rfl (lv_at hl 1 rfl) ?_
  obtain ⟨r1, hr1, hf⟩ := bndS hf
  refine q_callV (rest := []) (st1 := [.int r1]) [.int a1] ⟨hx, hb, hml, hown, hts⟩ (c_X6_standing hr1) (cwV 1 hts gX6_ofGuest_X6_standing rfl rfl rfl (by decide +kernel) ⟨Nat.le_of_ble_eq_true rfl, Nat.le_of_ble_eq_true rfl⟩) hw ma_0 rfl rfl hl.1 rfl (Nat.le_of_ble_eq_true rfl) dX6_ofGuest_2 ⟨Nat.zero_le _, Nat.zero_le _⟩ rfl (fun H locs hw => ?_)
  refine lv_istore_n (lv' := [(3, .int r1), (0, .ref (ad 0)), (1, .int a1), (2, .int a2)]) hx hb dX6_ofGuest_5 rfl hl (by decide) rfl (fun ls hl => ?_)
  refine lv_iload_n hx hb dX6_ofGuest_6 rfl (lv_at hl 3 rfl) ?_
  by_cases hc0 : a2 = 5
  · have hf := iteT hf hc0
    refine lv_tableIn (tgt := 44) hx hb dX6_ofGuest_7 (by rw [hc0]; decide) (by rw [hc0]; decide) (by rw [hc0]; rfl) (by decide) ?_
    refine lv_aload_n hx hb dX6_ofGuest_44 rfl (lv_at hl 1 rfl) ?_
    refine lv_iload_n hx hb dX6_ofGuest_45 rfl (lv_at hl 2 rfl) ?_
    obtain ⟨r2, hr2, hf⟩ := bndS hf
    refine q_callV (rest := []) (st1 := [.int r2]) [.int a1] ⟨hx, hb, hml, hown, hts⟩ (c_X6_worn hr2) (cwV 1 hts gX6_ofGuest_X6_worn rfl rfl rfl (by decide +kernel) ⟨Nat.le_of_ble_eq_true rfl, Nat.le_of_ble_eq_true rfl⟩) hw ma_0 rfl rfl hl.1 rfl (Nat.le_of_ble_eq_true rfl) dX6_ofGuest_46 ⟨Nat.zero_le _, Nat.zero_le _⟩ rfl (fun H locs hw => ?_)
    cases hf
    exact q_iret hx hb hr hlocks hw dX6_ofGuest_49
  replace hf := iteF hf hc0
  by_cases hc1 : a2 = 6
  · have hf := iteT hf hc1
    refine lv_tableIn (tgt := 50) hx hb dX6_ofGuest_7 (by rw [hc1]; decide) (by rw [hc1]; decide) (by rw [hc1]; rfl) (by decide) ?_
    refine lv_aload_n hx hb dX6_ofGuest_50 rfl (lv_at hl 1 rfl) ?_
    refine lv_iload_n hx hb dX6_ofGuest_51 rfl (lv_at hl 2 rfl) ?_
    refine lv_iconst (v := 5) hx hb dX6_ofGuest_52 (by decide) ?_
    obtain ⟨r3, hr3, hf⟩ := bndS hf
    refine q_callV (rest := []) (st1 := [.int r3]) [.int a1, .int 5] ⟨hx, hb, hml, hown, hts⟩ (c_X6_of hr3) (cwV 2 hts gX6_ofGuest_X6_of rfl rfl rfl (by decide +kernel) ⟨Nat.le_of_ble_eq_true rfl, Nat.le_of_ble_eq_true rfl⟩) hw ma_0 rfl rfl hl.1 rfl (Nat.le_of_ble_eq_true rfl) dX6_ofGuest_53 ⟨Nat.zero_le _, Nat.zero_le _⟩ rfl (fun H locs hw => ?_)
    cases hf
    exact q_iret hx hb hr hlocks hw dX6_ofGuest_56
  replace hf := iteF hf hc1
  by_cases hc2 : a2 = 7
  · have hf := iteT hf hc2
    refine lv_tableIn (tgt := 57) hx hb dX6_ofGuest_7 (by rw [hc2]; decide) (by rw [hc2]; decide) (by rw [hc2]; rfl) (by decide) ?_
    refine lv_aload_n hx hb dX6_ofGuest_57 rfl (lv_at hl 1 rfl) ?_
    refine lv_iload_n hx hb dX6_ofGuest_58 rfl (lv_at hl 2 rfl) ?_
    refine lv_bipush (v := 6) hx hb dX6_ofGuest_59 (by decide) ?_
    obtain ⟨r4, hr4, hf⟩ := bndS hf
    refine q_callV (rest := []) (st1 := [.int r4]) [.int a1, .int 6] ⟨hx, hb, hml, hown, hts⟩ (c_X6_of hr4) (cwV 2 hts gX6_ofGuest_X6_of rfl rfl rfl (by decide +kernel) ⟨Nat.le_of_ble_eq_true rfl, Nat.le_of_ble_eq_true rfl⟩) hw ma_0 rfl rfl hl.1 rfl (Nat.le_of_ble_eq_true rfl) dX6_ofGuest_61 ⟨Nat.zero_le _, Nat.zero_le _⟩ rfl (fun H locs hw => ?_)
    cases hf
    exact q_iret hx hb hr hlocks hw dX6_ofGuest_64
  replace hf := iteF hf hc2
  by_cases hc3 : a2 = 8
  · have hf := iteT hf hc3
    refine lv_tableIn (tgt := 65) hx hb dX6_ofGuest_7 (by rw [hc3]; decide) (by rw [hc3]; decide) (by rw [hc3]; rfl) (by decide) ?_
    refine lv_iload_n hx hb dX6_ofGuest_65 rfl (lv_at hl 0 rfl) ?_
    refine lv_iconst (v := (-1)) hx hb dX6_ofGuest_66 (by decide) ?_
    refine lv_icmp_ne (tgt := 74) hx hb dX6_ofGuest_67 (by decide) (fun hc => ?_) (fun hc => ?_)
    · have hf := iteF hf hc
      refine lv_iload_n hx hb dX6_ofGuest_74 rfl (lv_at hl 0 rfl) ?_
      refine lv_bipush (v := 16) hx hb dX6_ofGuest_75 (by decide) ?_
      refine lv_idiv hx hb dX6_ofGuest_77 (by decide) ?_
      cases hf
      exact q_iret hx hb hr hlocks hw dX6_ofGuest_78
    · have hf := iteT hf hc
      refine lv_iconst (v := (-1)) hx hb dX6_ofGuest_70 (by decide) ?_
      refine lv_goto (tgt := 78) hx hb dX6_ofGuest_71 (by decide) ?_
      cases hf
      exact q_iret hx hb hr hlocks hw dX6_ofGuest_78
  replace hf := iteF hf hc3
  by_cases hc4 : a2 = 9
  · have hf := iteT hf hc4
    refine lv_tableIn (tgt := 79) hx hb dX6_ofGuest_7 (by rw [hc4]; decide) (by rw [hc4]; decide) (by rw [hc4]; rfl) (by decide) ?_
    refine lv_iload_n hx hb dX6_ofGuest_79 rfl (lv_at hl 0 rfl) ?_
    refine lv_iconst (v := (-1)) hx hb dX6_ofGuest_80 (by decide) ?_
    refine lv_icmp_ne (tgt := 88) hx hb dX6_ofGuest_81 (by decide) (fun hc => ?_) (fun hc => ?_)
    · have hf := iteF hf hc
      refine lv_iload_n hx hb dX6_ofGuest_88 rfl (lv_at hl 0 rfl) ?_
      refine lv_bipush (v := 16) hx hb dX6_ofGuest_89 (by decide) ?_
      refine lv_irem hx hb dX6_ofGuest_91 (by decide) ?_
      cases hf
      exact q_iret hx hb hr hlocks hw dX6_ofGuest_92
    · have hf := iteT hf hc
      refine lv_iconst (v := (-1)) hx hb dX6_ofGuest_84 (by decide) ?_
      refine lv_goto (tgt := 92) hx hb dX6_ofGuest_85 (by decide) ?_
      cases hf
      exact q_iret hx hb hr hlocks hw dX6_ofGuest_92
  replace hf := iteF hf hc4
  by_cases hc5 : a2 = 10
  · have hf := iteT hf hc5
    refine lv_tableIn (tgt := 93) hx hb dX6_ofGuest_7 (by rw [hc5]; decide) (by rw [hc5]; decide) (by rw [hc5]; rfl) (by decide) ?_
    refine lv_aload_n hx hb dX6_ofGuest_93 rfl (lv_at hl 1 rfl) ?_
    refine lv_iload_n hx hb dX6_ofGuest_94 rfl (lv_at hl 2 rfl) ?_
    obtain ⟨r5, hr5, hf⟩ := bndS hf
    refine q_callV (rest := []) (st1 := [.int r5]) [.int a1] ⟨hx, hb, hml, hown, hts⟩ (c_X6_lentTo hr5) (cwV 1 hts gX6_ofGuest_X6_lentTo rfl rfl rfl (by decide +kernel) ⟨Nat.le_of_ble_eq_true rfl, Nat.le_of_ble_eq_true rfl⟩) hw ma_0 rfl rfl hl.1 rfl (Nat.le_of_ble_eq_true rfl) dX6_ofGuest_95 ⟨Nat.zero_le _, Nat.zero_le _⟩ rfl (fun H locs hw => ?_)
    cases hf
    exact q_iret hx hb hr hlocks hw dX6_ofGuest_98
  replace hf := iteF hf hc5
  have nhc0 := ne_toInt hc0 (k := 5) (by decide)
  have nhc1 := ne_toInt hc1 (k := 6) (by decide)
  have nhc2 := ne_toInt hc2 (k := 7) (by decide)
  have nhc3 := ne_toInt hc3 (k := 8) (by decide)
  have nhc4 := ne_toInt hc4 (k := 9) (by decide)
  have nhc5 := ne_toInt hc5 (k := 10) (by decide)
  refine lv_tableOut (tgt := 99) hx hb dX6_ofGuest_7 (by omega) (by decide) ?_
  refine lv_aload_n hx hb dX6_ofGuest_99 rfl (lv_at hl 1 rfl) ?_
  refine lv_iload_n hx hb dX6_ofGuest_100 rfl (lv_at hl 2 rfl) ?_
  refine lv_iload_n hx hb dX6_ofGuest_101 rfl (lv_at hl 3 rfl) ?_
  obtain ⟨r6, hr6, hf⟩ := bndS hf
  refine q_callV (rest := []) (st1 := [.int r6]) [.int a1, .int a2] ⟨hx, hb, hml, hown, hts⟩ (c_X6_of hr6) (cwV 2 hts gX6_ofGuest_X6_of rfl rfl rfl (by decide +kernel) ⟨Nat.le_of_ble_eq_true rfl, Nat.le_of_ble_eq_true rfl⟩) hw ma_0 rfl rfl hl.1 rfl (Nat.le_of_ble_eq_true rfl) dX6_ofGuest_102 ⟨Nat.zero_le _, Nat.zero_le _⟩ rfl (fun H locs hw => ?_)
  cases hf
  exact q_iret hx hb hr hlocks hw dX6_ofGuest_105

def f_X6_guest_b28    (M : MS) (x1 : Int32) (x2 : Int32) (y0 : Int32) : Option (Int32 × MS) := bnd2 (f_X6_holds M y0) (fun r1 M2 => (if r1 = 0 then some (0, M2) else bnd (f_X6_ofGuest M2 x1 x2) (fun r3 => some (r3, M2))))
def f_X6_guest (M : MS)  (a1 : Int32) (a2 : Int32) : Option (Int32 × MS) := bnd (f_X6_isGuest M a1) (fun r1 => (if r1 = 0 then f_X6_guest_b28 M a1 a2 1 else bnd (f_X6_in a2 0 10) (fun r2 => (if r2 = 0 then f_X6_guest_b28 M a1 a2 2 else f_X6_guest_b28 M a1 a2 0))))
set_option maxHeartbeats 4000000 in
set_option maxRecDepth 100000 in
theorem c_X6_guest {l : Launch} {D : va_G} {cI cR : ClassId} {ad : Nat → Nat} {A : Nat → Prop} {M : MS} {M' : MS} {a1 : Int32} {a2 : Int32} {r : Int32}  (hf : f_X6_guest M a1 a2 = some (r, M')) : MC l yX6_guest wsX6_guest 3 68 D cI cR A [.ref (ad 0), .int a1, .int a2] (mws cI ad M) (some (.int r)) (mws cI ad M') := by
  refine Met.ofW (cc := cX6_guest) (maxL := 3) (ret := (some .int)) (by decide) rfl ?_
  intro p e s m args below meth c s₁ B hml hv
  obtain ⟨rfl, hw⟩ := q_start hv
  have hx := B.exec
  have hb := B.bytes
  have hr := B.returns
  have hts := atoms_spec (ws := wsX6_guest) B.pre
  have hown : s.vm.findClass RX6 = some m.cls := findClass_of_methodNamed B.named
  have hlocks := B.notSynchronized
  have hl := lv_entry ([.ref (ad 0), .int a1, .int a2]) (n := 3) (Nat.le_of_ble_eq_true rfl)
  rw [lg_entry_eq]
  generalize (lg_sl ([.ref (ad 0), .int a1, .int a2]) ++ List.replicate (3 - (lg_sl ([.ref (ad 0), .int a1, .int a2])).length) Slot.unset).toArray = ls at hl ⊢
  have hl : lv_has ls 3 [(0, .ref (ad 0)), (1, .int a1), (2, .int a2)] := hl
  unfold f_X6_guest at hf
  obtain ⟨H, eH⟩ : ∃ H, H = s.heap := ⟨_, rfl⟩
  obtain ⟨locs, eL⟩ : ∃ L : List Loc, L = [] := ⟨_, rfl⟩
  rw [← eH, ← eL] at hw ⊢
  clear eH eL
  have B28 : ∀ (M : MS) (x1 : Int32) (x2 : Int32) (y0 : Int32) (H : Heap) (locs : List Loc) (ls : Array Slot), f_X6_guest_b28 M x1 x2 y0 = some (r, M') → WH D cI cR A (mws cI ad M) s H locs → lv_has ls 3 [(0, .ref (ad 0)), (1, .int x1), (2, .int x2)] → W p l e (headSpec wsX6_guest ({ frames := 3, cells := 0, slots := 0, locals := 68 })).room s m ([.ref (ad 0), .int a1, .int a2] : List Value).toArray below meth c H locs 0 0 (MQ below (QV (some (.int r)) D A (mws cI ad M')) (([.ref (ad 0), .int a1, .int a2] : List Value)).toArray s 0 0 A) (F0 m 28 ls [.int y0, .ref (ad 0)]) := by
    intro M x1 x2 y0 H locs ls hf hw hl
    unfold f_X6_guest_b28 at hf
    obtain ⟨r1, M2, hr2, hf⟩ := bnd2S hf
    refine q_callV (rest := []) (st1 := [.int r1]) [.int y0] ⟨hx, hb, hml, hown, hts⟩ (c_X6_holds hr2) (cwV 1 hts gX6_guest_X6_holds rfl rfl rfl (by decide +kernel) ⟨Nat.le_of_ble_eq_true rfl, Nat.le_of_ble_eq_true rfl⟩) hw ma_0 rfl rfl hl.1 rfl (Nat.le_of_ble_eq_true rfl) dX6_guest_28 ⟨Nat.zero_le _, Nat.zero_le _⟩ rfl (fun H locs hw => ?_)
    refine lv_if_eq (tgt := 43) hx hb dX6_guest_31 (by decide) (fun hc => ?_) (fun hc => ?_)
    · have hf := iteT hf hc
      refine lv_iconst (v := 0) hx hb dX6_guest_43 (by decide) ?_
      cases hf
      exact q_iret hx hb hr hlocks hw dX6_guest_44
    · have hf := iteF hf hc
      refine lv_aload_n hx hb dX6_guest_34 rfl (lv_at hl 0 rfl) ?_
      refine lv_iload_n hx hb dX6_guest_35 rfl (lv_at hl 1 rfl) ?_
      refine lv_iload_n hx hb dX6_guest_36 rfl (lv_at hl 2 rfl) ?_
      obtain ⟨r3, hr3, hf⟩ := bndS hf
      refine q_callV (rest := []) (st1 := [.int r3]) [.int x1, .int x2] ⟨hx, hb, hml, hown, hts⟩ (c_X6_ofGuest hr3) (cwV 2 hts gX6_guest_X6_ofGuest rfl rfl rfl (by decide +kernel) ⟨Nat.le_of_ble_eq_true rfl, Nat.le_of_ble_eq_true rfl⟩) hw ma_0 rfl rfl hl.1 rfl (Nat.le_of_ble_eq_true rfl) dX6_guest_37 ⟨Nat.zero_le _, Nat.zero_le _⟩ rfl (fun H locs hw => ?_)
      refine lv_goto (tgt := 44) hx hb dX6_guest_40 (by decide) ?_
      cases hf
      exact q_iret hx hb hr hlocks hw dX6_guest_44
  refine lv_aload_n hx hb dX6_guest_0 rfl (lv_at hl 0 rfl) ?_
  refine lv_aload_n hx hb dX6_guest_1 rfl (lv_at hl 0 rfl) ?_
  refine lv_iload_n hx hb dX6_guest_2 rfl (lv_at hl 1 rfl) ?_
  obtain ⟨r1, hr1, hf⟩ := bndS hf
  refine q_callV (rest := [.ref (ad 0)]) (st1 := [.int r1, .ref (ad 0)]) [.int a1] ⟨hx, hb, hml, hown, hts⟩ (c_X6_isGuest hr1) (cwV 1 hts gX6_guest_X6_isGuest rfl rfl rfl (by decide +kernel) ⟨Nat.le_of_ble_eq_true rfl, Nat.le_of_ble_eq_true rfl⟩) hw ma_0 rfl rfl hl.1 rfl (Nat.le_of_ble_eq_true rfl) dX6_guest_3 ⟨Nat.zero_le _, Nat.zero_le _⟩ rfl (fun H locs hw => ?_)
  refine lv_if_ne (tgt := 13) hx hb dX6_guest_6 (by decide) (fun hc => ?_) (fun hc => ?_)
  · have hf := iteF hf hc
    refine lv_iload_n hx hb dX6_guest_13 rfl (lv_at hl 2 rfl) ?_
    refine lv_iconst (v := 0) hx hb dX6_guest_14 (by decide) ?_
    refine lv_bipush (v := 10) hx hb dX6_guest_15 (by decide) ?_
    obtain ⟨r2, hr2, hf⟩ := bndS hf
    refine q_callS (rest := [.ref (ad 0)]) (st1 := [.int r2, .ref (ad 0)]) [.int a2, .int 0, .int 10] ⟨hx, hb, hml, hown, hts⟩ (c_X6_in hr2) (va_cwS 3 hts gX6_guest_X6_in rfl rfl rfl (by decide +kernel) ⟨Nat.le_of_ble_eq_true rfl, Nat.le_of_ble_eq_true rfl⟩) hw rfl hl.1 rfl (Nat.le_of_ble_eq_true rfl) dX6_guest_17 ⟨Nat.zero_le _, Nat.zero_le _⟩ rfl (fun H locs hw => ?_)
    refine lv_if_ne (tgt := 27) hx hb dX6_guest_20 (by decide) (fun hc => ?_) (fun hc => ?_)
    · have hf := iteF hf hc
      refine lv_iconst (v := 0) hx hb dX6_guest_27 (by decide) ?_
      exact B28 M a1 a2 0 H locs ls hf hw (lv_sub hl [0, 1, 2] rfl)
    · have hf := iteT hf hc
      refine lv_iconst (v := 2) hx hb dX6_guest_23 (by decide) ?_
      refine lv_goto (tgt := 28) hx hb dX6_guest_24 (by decide) ?_
      exact B28 M a1 a2 2 H locs ls hf hw (lv_sub hl [0, 1, 2] rfl)
  · have hf := iteT hf hc
    refine lv_iconst (v := 1) hx hb dX6_guest_9 (by decide) ?_
    refine lv_goto (tgt := 28) hx hb dX6_guest_10 (by decide) ?_
    exact B28 M a1 a2 1 H locs ls hf hw (lv_sub hl [0, 1, 2] rfl)

def f_X6_law_b42    (M : MS) (x1 : Int32) (x2 : Int32) (x3 : Int32) (y0 : Int32) : Option (Int32 × MS) := bnd2 (f_X6_holds M y0) (fun r1 M2 => (if r1 = 0 then some (0, M2) else bnd (f_X6_allowed M2 x1 x2 x3) (fun r3 => some (r3, M2))))
def f_X6_law_b18    (M : MS) (x1 : Int32) (x2 : Int32) (x3 : Int32) (y0 : Int32) : Option (Int32 × MS) := bnd (f_X6_isGate x1) (fun r1 => (if r1 = 0 then f_X6_law_b42 M x1 x2 x3 1 else (if y0 = 0 then f_X6_law_b42 M x1 x2 x3 2 else f_X6_law_b42 M x1 x2 x3 0)))
def f_X6_law_b17    (M : MS) (x1 : Int32) (x2 : Int32) (x3 : Int32) : Option (Int32 × MS) := f_X6_law_b18 M x1 x2 x3 0
def f_X6_law (M : MS)  (a1 : Int32) (a2 : Int32) (a3 : Int32) : Option (Int32 × MS) := bnd (f_X6_in a2 0 4) (fun r1 => (if r1 = 0 then f_X6_law_b17 M a1 a2 a3 else (if a3 < 0 then f_X6_law_b17 M a1 a2 a3 else f_X6_law_b18 M a1 a2 a3 1)))
set_option maxHeartbeats 4000000 in
set_option maxRecDepth 100000 in
theorem c_X6_law {l : Launch} {D : va_G} {cI cR : ClassId} {ad : Nat → Nat} {A : Nat → Prop} {M : MS} {M' : MS} {a1 : Int32} {a2 : Int32} {a3 : Int32} {r : Int32}  (hf : f_X6_law M a1 a2 a3 = some (r, M')) : MC l yX6_law wsX6_law 2 42 D cI cR A [.ref (ad 0), .int a1, .int a2, .int a3] (mws cI ad M) (some (.int r)) (mws cI ad M') := by
  refine Met.ofW (cc := cX6_law) (maxL := 5) (ret := (some .int)) (by decide) rfl ?_
  intro p e s m args below meth c s₁ B hml hv
  obtain ⟨rfl, hw⟩ := q_start hv
  have hx := B.exec
  have hb := B.bytes
  have hr := B.returns
  have hts := atoms_spec (ws := wsX6_law) B.pre
  have hown : s.vm.findClass RX6 = some m.cls := findClass_of_methodNamed B.named
  have hlocks := B.notSynchronized
  have hl := lv_entry ([.ref (ad 0), .int a1, .int a2, .int a3]) (n := 5) (Nat.le_of_ble_eq_true rfl)
  rw [lg_entry_eq]
  generalize (lg_sl ([.ref (ad 0), .int a1, .int a2, .int a3]) ++ List.replicate (5 - (lg_sl ([.ref (ad 0), .int a1, .int a2, .int a3])).length) Slot.unset).toArray = ls at hl ⊢
  have hl : lv_has ls 5 [(0, .ref (ad 0)), (1, .int a1), (2, .int a2), (3, .int a3)] := hl
  unfold f_X6_law at hf
  obtain ⟨H, eH⟩ : ∃ H, H = s.heap := ⟨_, rfl⟩
  obtain ⟨locs, eL⟩ : ∃ L : List Loc, L = [] := ⟨_, rfl⟩
  rw [← eH, ← eL] at hw ⊢
  clear eH eL
  have B42 : ∀ (M : MS) (x1 : Int32) (x2 : Int32) (x3 : Int32) (y0 : Int32) (H : Heap) (locs : List Loc) (ls : Array Slot), f_X6_law_b42 M x1 x2 x3 y0 = some (r, M') → WH D cI cR A (mws cI ad M) s H locs → lv_has ls 5 [(0, .ref (ad 0)), (1, .int x1), (2, .int x2), (3, .int x3)] → W p l e (headSpec wsX6_law ({ frames := 2, cells := 0, slots := 0, locals := 42 })).room s m ([.ref (ad 0), .int a1, .int a2, .int a3] : List Value).toArray below meth c H locs 0 0 (MQ below (QV (some (.int r)) D A (mws cI ad M')) (([.ref (ad 0), .int a1, .int a2, .int a3] : List Value)).toArray s 0 0 A) (F0 m 42 ls [.int y0, .ref (ad 0)]) := by
    intro M x1 x2 x3 y0 H locs ls hf hw hl
    unfold f_X6_law_b42 at hf
    obtain ⟨r1, M2, hr2, hf⟩ := bnd2S hf
    refine q_callV (rest := []) (st1 := [.int r1]) [.int y0] ⟨hx, hb, hml, hown, hts⟩ (c_X6_holds hr2) (cwV 1 hts gX6_law_X6_holds rfl rfl rfl (by decide +kernel) ⟨Nat.le_of_ble_eq_true rfl, Nat.le_of_ble_eq_true rfl⟩) hw ma_0 rfl rfl hl.1 rfl (Nat.le_of_ble_eq_true rfl) dX6_law_42 ⟨Nat.zero_le _, Nat.zero_le _⟩ rfl (fun H locs hw => ?_)
    refine lv_if_eq (tgt := 58) hx hb dX6_law_45 (by decide) (fun hc => ?_) (fun hc => ?_)
    · have hf := iteT hf hc
      refine lv_iconst (v := 0) hx hb dX6_law_58 (by decide) ?_
      cases hf
      exact q_iret hx hb hr hlocks hw dX6_law_59
    · have hf := iteF hf hc
      refine lv_aload_n hx hb dX6_law_48 rfl (lv_at hl 0 rfl) ?_
      refine lv_iload_n hx hb dX6_law_49 rfl (lv_at hl 1 rfl) ?_
      refine lv_iload_n hx hb dX6_law_50 rfl (lv_at hl 2 rfl) ?_
      refine lv_iload_n hx hb dX6_law_51 rfl (lv_at hl 3 rfl) ?_
      obtain ⟨r3, hr3, hf⟩ := bndS hf
      refine q_callV (rest := []) (st1 := [.int r3]) [.int x1, .int x2, .int x3] ⟨hx, hb, hml, hown, hts⟩ (c_X6_allowed hr3) (cwV 3 hts gX6_law_X6_allowed rfl rfl rfl (by decide +kernel) ⟨Nat.le_of_ble_eq_true rfl, Nat.le_of_ble_eq_true rfl⟩) hw ma_0 rfl rfl hl.1 rfl (Nat.le_of_ble_eq_true rfl) dX6_law_52 ⟨Nat.zero_le _, Nat.zero_le _⟩ rfl (fun H locs hw => ?_)
      refine lv_goto (tgt := 59) hx hb dX6_law_55 (by decide) ?_
      cases hf
      exact q_iret hx hb hr hlocks hw dX6_law_59
  have B18 : ∀ (M : MS) (x1 : Int32) (x2 : Int32) (x3 : Int32) (y0 : Int32) (H : Heap) (locs : List Loc) (ls : Array Slot), f_X6_law_b18 M x1 x2 x3 y0 = some (r, M') → WH D cI cR A (mws cI ad M) s H locs → lv_has ls 5 [(0, .ref (ad 0)), (1, .int x1), (2, .int x2), (3, .int x3)] → W p l e (headSpec wsX6_law ({ frames := 2, cells := 0, slots := 0, locals := 42 })).room s m ([.ref (ad 0), .int a1, .int a2, .int a3] : List Value).toArray below meth c H locs 0 0 (MQ below (QV (some (.int r)) D A (mws cI ad M')) (([.ref (ad 0), .int a1, .int a2, .int a3] : List Value)).toArray s 0 0 A) (F0 m 18 ls [.int y0]) := by
    intro M x1 x2 x3 y0 H locs ls hf hw hl
    unfold f_X6_law_b18 at hf
    refine lv_istore (lv' := [(4, .int y0), (0, .ref (ad 0)), (1, .int x1), (2, .int x2), (3, .int x3)]) hx hb dX6_law_18 hl (by decide) rfl (fun ls hl => ?_)
    refine lv_aload_n hx hb dX6_law_20 rfl (lv_at hl 1 rfl) ?_
    refine lv_iload_n hx hb dX6_law_21 rfl (lv_at hl 2 rfl) ?_
    obtain ⟨r1, hr1, hf⟩ := bndS hf
    refine q_callS (rest := [.ref (ad 0)]) (st1 := [.int r1, .ref (ad 0)]) [.int x1] ⟨hx, hb, hml, hown, hts⟩ (c_X6_isGate hr1) (va_cwS 1 hts gX6_law_X6_isGate rfl rfl rfl (by decide +kernel) ⟨Nat.le_of_ble_eq_true rfl, Nat.le_of_ble_eq_true rfl⟩) hw rfl hl.1 rfl (Nat.le_of_ble_eq_true rfl) dX6_law_22 ⟨Nat.zero_le _, Nat.zero_le _⟩ rfl (fun H locs hw => ?_)
    refine lv_if_ne (tgt := 32) hx hb dX6_law_25 (by decide) (fun hc => ?_) (fun hc => ?_)
    · have hf := iteF hf hc
      refine lv_iload hx hb dX6_law_32 (lv_at hl 0 rfl) ?_
      refine lv_if_ne (tgt := 41) hx hb dX6_law_34 (by decide) (fun hc => ?_) (fun hc => ?_)
      · have hf := iteF hf hc
        refine lv_iconst (v := 0) hx hb dX6_law_41 (by decide) ?_
        exact B42 M x1 x2 x3 0 H locs ls hf hw (lv_sub hl [1, 2, 3, 4] rfl)
      · have hf := iteT hf hc
        refine lv_iconst (v := 2) hx hb dX6_law_37 (by decide) ?_
        refine lv_goto (tgt := 42) hx hb dX6_law_38 (by decide) ?_
        exact B42 M x1 x2 x3 2 H locs ls hf hw (lv_sub hl [1, 2, 3, 4] rfl)
    · have hf := iteT hf hc
      refine lv_iconst (v := 1) hx hb dX6_law_28 (by decide) ?_
      refine lv_goto (tgt := 42) hx hb dX6_law_29 (by decide) ?_
      exact B42 M x1 x2 x3 1 H locs ls hf hw (lv_sub hl [1, 2, 3, 4] rfl)
  have B17 : ∀ (M : MS) (x1 : Int32) (x2 : Int32) (x3 : Int32) (H : Heap) (locs : List Loc) (ls : Array Slot), f_X6_law_b17 M x1 x2 x3 = some (r, M') → WH D cI cR A (mws cI ad M) s H locs → lv_has ls 5 [(0, .ref (ad 0)), (1, .int x1), (2, .int x2), (3, .int x3)] → W p l e (headSpec wsX6_law ({ frames := 2, cells := 0, slots := 0, locals := 42 })).room s m ([.ref (ad 0), .int a1, .int a2, .int a3] : List Value).toArray below meth c H locs 0 0 (MQ below (QV (some (.int r)) D A (mws cI ad M')) (([.ref (ad 0), .int a1, .int a2, .int a3] : List Value)).toArray s 0 0 A) (F0 m 17 ls []) := by
    intro M x1 x2 x3 H locs ls hf hw hl
    unfold f_X6_law_b17 at hf
    refine lv_iconst (v := 0) hx hb dX6_law_17 (by decide) ?_
    exact B18 M x1 x2 x3 0 H locs ls hf hw (lv_sub hl [0, 1, 2, 3] rfl)
  refine lv_iload_n hx hb dX6_law_0 rfl (lv_at hl 2 rfl) ?_
  refine lv_iconst (v := 0) hx hb dX6_law_1 (by decide) ?_
  refine lv_iconst (v := 4) hx hb dX6_law_2 (by decide) ?_
  obtain ⟨r1, hr1, hf⟩ := bndS hf
  refine q_callS (rest := []) (st1 := [.int r1]) [.int a2, .int 0, .int 4] ⟨hx, hb, hml, hown, hts⟩ (c_X6_in hr1) (va_cwS 3 hts gX6_law_X6_in rfl rfl rfl (by decide +kernel) ⟨Nat.le_of_ble_eq_true rfl, Nat.le_of_ble_eq_true rfl⟩) hw rfl hl.1 rfl (Nat.le_of_ble_eq_true rfl) dX6_law_3 ⟨Nat.zero_le _, Nat.zero_le _⟩ rfl (fun H locs hw => ?_)
  refine lv_if_eq (tgt := 17) hx hb dX6_law_6 (by decide) (fun hc => ?_) (fun hc => ?_)
  · have hf := iteT hf hc
    exact B17 M a1 a2 a3 H locs ls hf hw (lv_sub hl [0, 1, 2, 3] rfl)
  · have hf := iteF hf hc
    refine lv_iload_n hx hb dX6_law_9 rfl (lv_at hl 3 rfl) ?_
    refine lv_if_lt (tgt := 17) hx hb dX6_law_10 (by decide) (fun hc => ?_) (fun hc => ?_)
    · have hf := iteT hf hc
      exact B17 M a1 a2 a3 H locs ls hf hw (lv_sub hl [0, 1, 2, 3] rfl)
    · have hf := iteF hf hc
      refine lv_iconst (v := 1) hx hb dX6_law_13 (by decide) ?_
      refine lv_goto (tgt := 18) hx hb dX6_law_14 (by decide) ?_
      exact B18 M a1 a2 a3 1 H locs ls hf hw (lv_sub hl [0, 1, 2, 3] rfl)

def f_X6_total_l4  (M : MS)  : Nat → Int32 → Int32 → Int32 → Option Int32
  | 0, _, _, _ => none
  | n4 + 1, x1, x2, x3 => gd (inb 1 952) (nm (M.1 0 (1 : Int32).toNatClampNeg) (fun v1 => (if v1 ≤ x3 then some x2 else bnd (f_X6_of M x3 x1) (fun r2 => nm (x3 + 1) (fun v3 => (f_X6_total_l4 M n4) x1 (x2 + r2) v3)))))
def f_X6_total (M : MS)  (a1 : Int32) : Option Int32 := f_X6_total_l4 M fuelN a1 0 0
set_option maxHeartbeats 4000000 in
set_option maxRecDepth 100000 in
theorem c_X6_total {l : Launch} {D : va_G} {cI cR : ClassId} {ad : Nat → Nat} {A : Nat → Prop} {M : MS}  {a1 : Int32} {r : Int32}  (hf : f_X6_total M a1 = some r) : MC l yX6_total wsX6_total 1 22 D cI cR A [.ref (ad 0), .int a1] (mws cI ad M) (some (.int r)) (mws cI ad M) := by
  refine Met.ofW (cc := cX6_total) (maxL := 4) (ret := (some .int)) (by decide) rfl ?_
  intro p e s m args below meth c s₁ B hml hv
  obtain ⟨rfl, hw⟩ := q_start hv
  have hx := B.exec
  have hb := B.bytes
  have hr := B.returns
  have hts := atoms_spec (ws := wsX6_total) B.pre
  have hown : s.vm.findClass RX6 = some m.cls := findClass_of_methodNamed B.named
  have hlocks := B.notSynchronized
  have hiX6 : ∀ w ∈ wsX60, w ∈ wsX6_total := by decide +kernel
  have hl := lv_entry ([.ref (ad 0), .int a1]) (n := 4) (Nat.le_of_ble_eq_true rfl)
  rw [lg_entry_eq]
  generalize (lg_sl ([.ref (ad 0), .int a1]) ++ List.replicate (4 - (lg_sl ([.ref (ad 0), .int a1])).length) Slot.unset).toArray = ls at hl ⊢
  have hl : lv_has ls 4 [(0, .ref (ad 0)), (1, .int a1)] := hl
  unfold f_X6_total at hf
  obtain ⟨H, eH⟩ : ∃ H, H = s.heap := ⟨_, rfl⟩
  obtain ⟨locs, eL⟩ : ∃ L : List Loc, L = [] := ⟨_, rfl⟩
  rw [← eH, ← eL] at hw ⊢
  clear eH eL
  have L4 : ∀ (n4 : Nat) (x1 : Int32) (x2 : Int32) (x3 : Int32) (H : Heap) (locs : List Loc) (ls : Array Slot), f_X6_total_l4 M n4 x1 x2 x3 = some r → WH D cI cR A (mws cI ad M) s H locs → lv_has ls 4 [(0, .ref (ad 0)), (1, .int x1), (2, .int x2), (3, .int x3)] → W p l e (headSpec wsX6_total ({ frames := 1, cells := 0, slots := 0, locals := 22 })).room s m ([.ref (ad 0), .int a1] : List Value).toArray below meth c H locs 0 0 (MQ below (QV (some (.int r)) D A (mws cI ad M)) (([.ref (ad 0), .int a1] : List Value)).toArray s 0 0 A) (F0 m 4 ls []) := by
    intro n4
    induction n4 with
    | zero => intro x1 x2 x3 H locs ls hf; cases hf
    | succ n4 ih =>
      have ih4 := ih
      intro x1 x2 x3 H locs ls hf hw hl
      simp only [f_X6_total_l4] at hf
      refine lv_iload_n hx hb dX6_total_4 rfl (lv_at hl 3 rfl) ?_
      refine lv_aload_n hx hb dX6_total_5 rfl (lv_at hl 0 rfl) ?_
      refine q_get hx hb hts hiX6 hown hw 0 ma_0 rfl 1 (by decide) (hts (.fieldLink RX6 7 "LaceRanksModel" "s" "[I") (by decide +kernel)) rfl dX6_total_6 ?_
      refine lv_iconst (v := 1) hx hb dX6_total_9 (by decide) ?_
      obtain ⟨hg, hf⟩ := gdE hf
      obtain ⟨v1, hv1, hf⟩ := nmE hf
      refine q_iald hx hb hw 1 ma_1 (inb_in hg) dX6_total_10 ?_
      refine q_is hv1 ?_
      refine lv_icmp_ge (tgt := 29) hx hb dX6_total_11 (by decide) (fun hc => ?_) (fun hc => ?_)
      · have hf := iteT hf hc
        refine lv_iload_n hx hb dX6_total_29 rfl (lv_at hl 2 rfl) ?_
        cases hf
        exact q_iret hx hb hr hlocks hw dX6_total_30
      · have hf := iteF hf hc
        refine lv_iload_n hx hb dX6_total_14 rfl (lv_at hl 2 rfl) ?_
        refine lv_aload_n hx hb dX6_total_15 rfl (lv_at hl 0 rfl) ?_
        refine lv_iload_n hx hb dX6_total_16 rfl (lv_at hl 3 rfl) ?_
        refine lv_iload_n hx hb dX6_total_17 rfl (lv_at hl 1 rfl) ?_
        obtain ⟨r2, hr2, hf⟩ := bndS hf
        refine q_callV (rest := [.int x2]) (st1 := [.int r2, .int x2]) [.int x3, .int x1] ⟨hx, hb, hml, hown, hts⟩ (c_X6_of hr2) (cwV 2 hts gX6_total_X6_of rfl rfl rfl (by decide +kernel) ⟨Nat.le_of_ble_eq_true rfl, Nat.le_of_ble_eq_true rfl⟩) hw ma_0 rfl rfl hl.1 rfl (Nat.le_of_ble_eq_true rfl) dX6_total_18 ⟨Nat.zero_le _, Nat.zero_le _⟩ rfl (fun H locs hw => ?_)
        refine lv_iadd hx hb dX6_total_21 ?_
        refine lv_istore_n (lv' := [(2, .int (x2 + r2)), (0, .ref (ad 0)), (1, .int x1), (3, .int x3)]) hx hb dX6_total_22 rfl hl (by decide) rfl (fun ls hl => ?_)
        obtain ⟨v3, hv3, hf⟩ := nmE hf
        refine lv_iinc (v := v3) (lv' := [(3, .int v3), (2, .int (x2 + r2)), (0, .ref (ad 0)), (1, .int x1)]) hx hb dX6_total_23 hl (k := 3) rfl (by rw [hv3]; rfl) (by decide) rfl (fun ls hl => ?_)
        refine lv_goto (tgt := 4) hx hb dX6_total_26 (by decide) ?_
        exact ih4 x1 (x2 + r2) v3 H locs ls hf hw (lv_sub hl [2, 3, 1, 0] rfl)
  refine lv_iconst (v := 0) hx hb dX6_total_0 (by decide) ?_
  refine lv_istore_n (lv' := [(2, .int 0), (0, .ref (ad 0)), (1, .int a1)]) hx hb dX6_total_1 rfl hl (by decide) rfl (fun ls hl => ?_)
  refine lv_iconst (v := 0) hx hb dX6_total_2 (by decide) ?_
  refine lv_istore_n (lv' := [(3, .int 0), (2, .int 0), (0, .ref (ad 0)), (1, .int a1)]) hx hb dX6_total_3 rfl hl (by decide) rfl (fun ls hl => ?_)
  exact L4 fuelN a1 0 0 H locs ls hf hw (lv_sub hl [2, 3, 1, 0] rfl)

def f_X6_masked_b29 (k4 : Int32 → Int32 → Option Int32) (M : MS)  (x2 : Int32) (y0 : Int32) (y1 : Int32) : Option Int32 := nm (x2 + 1) (fun v1 => k4 (y1 + y0) v1)
def f_X6_masked_l4  (M : MS)  : Nat → Int32 → Int32 → Option Int32
  | 0, _, _ => none
  | n4 + 1, x1, x2 => gd (inb 1 952) (nm (M.1 0 (1 : Int32).toNatClampNeg) (fun v1 => (if v1 ≤ x2 then some x1 else bnd (f_X6_of M x2 5) (fun r2 => (if r2 ≤ 0 then f_X6_masked_b29 (f_X6_masked_l4 M n4) M x2 0 x1 else f_X6_masked_b29 (f_X6_masked_l4 M n4) M x2 1 x1)))))
def f_X6_masked (M : MS)   : Option Int32 := f_X6_masked_l4 M fuelN 0 0
set_option maxHeartbeats 4000000 in
set_option maxRecDepth 100000 in
theorem c_X6_masked {l : Launch} {D : va_G} {cI cR : ClassId} {ad : Nat → Nat} {A : Nat → Prop} {M : MS}   {r : Int32}  (hf : f_X6_masked M = some r) : MC l yX6_masked wsX6_masked 1 22 D cI cR A [.ref (ad 0)] (mws cI ad M) (some (.int r)) (mws cI ad M) := by
  refine Met.ofW (cc := cX6_masked) (maxL := 3) (ret := (some .int)) (by decide) rfl ?_
  intro p e s m args below meth c s₁ B hml hv
  obtain ⟨rfl, hw⟩ := q_start hv
  have hx := B.exec
  have hb := B.bytes
  have hr := B.returns
  have hts := atoms_spec (ws := wsX6_masked) B.pre
  have hown : s.vm.findClass RX6 = some m.cls := findClass_of_methodNamed B.named
  have hlocks := B.notSynchronized
  have hiX6 : ∀ w ∈ wsX60, w ∈ wsX6_masked := by decide +kernel
  have hl := lv_entry ([.ref (ad 0)]) (n := 3) (Nat.le_of_ble_eq_true rfl)
  rw [lg_entry_eq]
  generalize (lg_sl ([.ref (ad 0)]) ++ List.replicate (3 - (lg_sl ([.ref (ad 0)])).length) Slot.unset).toArray = ls at hl ⊢
  have hl : lv_has ls 3 [(0, .ref (ad 0))] := hl
  unfold f_X6_masked at hf
  obtain ⟨H, eH⟩ : ∃ H, H = s.heap := ⟨_, rfl⟩
  obtain ⟨locs, eL⟩ : ∃ L : List Loc, L = [] := ⟨_, rfl⟩
  rw [← eH, ← eL] at hw ⊢
  clear eH eL
  have L4 : ∀ (n4 : Nat) (x1 : Int32) (x2 : Int32) (H : Heap) (locs : List Loc) (ls : Array Slot), f_X6_masked_l4 M n4 x1 x2 = some r → WH D cI cR A (mws cI ad M) s H locs → lv_has ls 3 [(0, .ref (ad 0)), (1, .int x1), (2, .int x2)] → W p l e (headSpec wsX6_masked ({ frames := 1, cells := 0, slots := 0, locals := 22 })).room s m ([.ref (ad 0)] : List Value).toArray below meth c H locs 0 0 (MQ below (QV (some (.int r)) D A (mws cI ad M)) (([.ref (ad 0)] : List Value)).toArray s 0 0 A) (F0 m 4 ls []) := by
    intro n4
    induction n4 with
    | zero => intro x1 x2 H locs ls hf; cases hf
    | succ n4 ih =>
      have ih4 := ih
      have B29 : ∀ (x2 : Int32) (y0 : Int32) (y1 : Int32) (H : Heap) (locs : List Loc) (ls : Array Slot), f_X6_masked_b29 (f_X6_masked_l4 M n4) M x2 y0 y1 = some r → WH D cI cR A (mws cI ad M) s H locs → lv_has ls 3 [(0, .ref (ad 0)), (2, .int x2)] → W p l e (headSpec wsX6_masked ({ frames := 1, cells := 0, slots := 0, locals := 22 })).room s m ([.ref (ad 0)] : List Value).toArray below meth c H locs 0 0 (MQ below (QV (some (.int r)) D A (mws cI ad M)) (([.ref (ad 0)] : List Value)).toArray s 0 0 A) (F0 m 29 ls [.int y0, .int y1]) := by
        intro x2 y0 y1 H locs ls hf hw hl
        unfold f_X6_masked_b29 at hf
        refine lv_iadd hx hb dX6_masked_29 ?_
        refine lv_istore_n (lv' := [(1, .int (y1 + y0)), (0, .ref (ad 0)), (2, .int x2)]) hx hb dX6_masked_30 rfl hl (by decide) rfl (fun ls hl => ?_)
        obtain ⟨v1, hv1, hf⟩ := nmE hf
        refine lv_iinc (v := v1) (lv' := [(2, .int v1), (1, .int (y1 + y0)), (0, .ref (ad 0))]) hx hb dX6_masked_31 hl (k := 2) rfl (by rw [hv1]; rfl) (by decide) rfl (fun ls hl => ?_)
        refine lv_goto (tgt := 4) hx hb dX6_masked_34 (by decide) ?_
        exact ih4 (y1 + y0) v1 H locs ls hf hw (lv_sub hl [2, 1, 0] rfl)
      intro x1 x2 H locs ls hf hw hl
      simp only [f_X6_masked_l4] at hf
      refine lv_iload_n hx hb dX6_masked_4 rfl (lv_at hl 2 rfl) ?_
      refine lv_aload_n hx hb dX6_masked_5 rfl (lv_at hl 0 rfl) ?_
      refine q_get hx hb hts hiX6 hown hw 0 ma_0 rfl 1 (by decide) (hts (.fieldLink RX6 7 "LaceRanksModel" "s" "[I") (by decide +kernel)) rfl dX6_masked_6 ?_
      refine lv_iconst (v := 1) hx hb dX6_masked_9 (by decide) ?_
      obtain ⟨hg, hf⟩ := gdE hf
      obtain ⟨v1, hv1, hf⟩ := nmE hf
      refine q_iald hx hb hw 1 ma_1 (inb_in hg) dX6_masked_10 ?_
      refine q_is hv1 ?_
      refine lv_icmp_ge (tgt := 37) hx hb dX6_masked_11 (by decide) (fun hc => ?_) (fun hc => ?_)
      · have hf := iteT hf hc
        refine lv_iload_n hx hb dX6_masked_37 rfl (lv_at hl 1 rfl) ?_
        cases hf
        exact q_iret hx hb hr hlocks hw dX6_masked_38
      · have hf := iteF hf hc
        refine lv_iload_n hx hb dX6_masked_14 rfl (lv_at hl 1 rfl) ?_
        refine lv_aload_n hx hb dX6_masked_15 rfl (lv_at hl 0 rfl) ?_
        refine lv_iload_n hx hb dX6_masked_16 rfl (lv_at hl 2 rfl) ?_
        refine lv_iconst (v := 5) hx hb dX6_masked_17 (by decide) ?_
        obtain ⟨r2, hr2, hf⟩ := bndS hf
        refine q_callV (rest := [.int x1]) (st1 := [.int r2, .int x1]) [.int x2, .int 5] ⟨hx, hb, hml, hown, hts⟩ (c_X6_of hr2) (cwV 2 hts gX6_masked_X6_of rfl rfl rfl (by decide +kernel) ⟨Nat.le_of_ble_eq_true rfl, Nat.le_of_ble_eq_true rfl⟩) hw ma_0 rfl rfl hl.1 rfl (Nat.le_of_ble_eq_true rfl) dX6_masked_18 ⟨Nat.zero_le _, Nat.zero_le _⟩ rfl (fun H locs hw => ?_)
        refine lv_if_le (tgt := 28) hx hb dX6_masked_21 (by decide) (fun hc => ?_) (fun hc => ?_)
        · have hf := iteT hf hc
          refine lv_iconst (v := 0) hx hb dX6_masked_28 (by decide) ?_
          exact B29 x2 0 x1 H locs ls hf hw (lv_sub hl [0, 2] rfl)
        · have hf := iteF hf hc
          refine lv_iconst (v := 1) hx hb dX6_masked_24 (by decide) ?_
          refine lv_goto (tgt := 29) hx hb dX6_masked_25 (by decide) ?_
          exact B29 x2 1 x1 H locs ls hf hw (lv_sub hl [0, 2] rfl)
  refine lv_iconst (v := 0) hx hb dX6_masked_0 (by decide) ?_
  refine lv_istore_n (lv' := [(1, .int 0), (0, .ref (ad 0))]) hx hb dX6_masked_1 rfl hl (by decide) rfl (fun ls hl => ?_)
  refine lv_iconst (v := 0) hx hb dX6_masked_2 (by decide) ?_
  refine lv_istore_n (lv' := [(2, .int 0), (1, .int 0), (0, .ref (ad 0))]) hx hb dX6_masked_3 rfl hl (by decide) rfl (fun ls hl => ?_)
  exact L4 fuelN 0 0 H locs ls hf hw (lv_sub hl [2, 1, 0] rfl)

def f_X6_insideSet_l4  (M : MS)  : Nat → Int32 → Int32 → Option Int32
  | 0, _, _ => none
  | n4 + 1, x1, x2 => gd (inb 1 952) (nm (M.1 0 (1 : Int32).toNatClampNeg) (fun v1 => (if v1 ≤ x2 then some x1 else bnd (f_X6_of M x2 6) (fun r2 => nm (x1 ||| (r2 <<< (x2 &&& 31))) (fun v3 => nm (x2 + 1) (fun v4 => (f_X6_insideSet_l4 M n4) v3 v4))))))
def f_X6_insideSet (M : MS)   : Option Int32 := f_X6_insideSet_l4 M fuelN 0 0
set_option maxHeartbeats 4000000 in
set_option maxRecDepth 100000 in
theorem c_X6_insideSet {l : Launch} {D : va_G} {cI cR : ClassId} {ad : Nat → Nat} {A : Nat → Prop} {M : MS}   {r : Int32}  (hf : f_X6_insideSet M = some r) : MC l yX6_insideSet wsX6_insideSet 1 22 D cI cR A [.ref (ad 0)] (mws cI ad M) (some (.int r)) (mws cI ad M) := by
  refine Met.ofW (cc := cX6_insideSet) (maxL := 3) (ret := (some .int)) (by decide) rfl ?_
  intro p e s m args below meth c s₁ B hml hv
  obtain ⟨rfl, hw⟩ := q_start hv
  have hx := B.exec
  have hb := B.bytes
  have hr := B.returns
  have hts := atoms_spec (ws := wsX6_insideSet) B.pre
  have hown : s.vm.findClass RX6 = some m.cls := findClass_of_methodNamed B.named
  have hlocks := B.notSynchronized
  have hiX6 : ∀ w ∈ wsX60, w ∈ wsX6_insideSet := by decide +kernel
  have hl := lv_entry ([.ref (ad 0)]) (n := 3) (Nat.le_of_ble_eq_true rfl)
  rw [lg_entry_eq]
  generalize (lg_sl ([.ref (ad 0)]) ++ List.replicate (3 - (lg_sl ([.ref (ad 0)])).length) Slot.unset).toArray = ls at hl ⊢
  have hl : lv_has ls 3 [(0, .ref (ad 0))] := hl
  unfold f_X6_insideSet at hf
  obtain ⟨H, eH⟩ : ∃ H, H = s.heap := ⟨_, rfl⟩
  obtain ⟨locs, eL⟩ : ∃ L : List Loc, L = [] := ⟨_, rfl⟩
  rw [← eH, ← eL] at hw ⊢
  clear eH eL
  have L4 : ∀ (n4 : Nat) (x1 : Int32) (x2 : Int32) (H : Heap) (locs : List Loc) (ls : Array Slot), f_X6_insideSet_l4 M n4 x1 x2 = some r → WH D cI cR A (mws cI ad M) s H locs → lv_has ls 3 [(0, .ref (ad 0)), (1, .int x1), (2, .int x2)] → W p l e (headSpec wsX6_insideSet ({ frames := 1, cells := 0, slots := 0, locals := 22 })).room s m ([.ref (ad 0)] : List Value).toArray below meth c H locs 0 0 (MQ below (QV (some (.int r)) D A (mws cI ad M)) (([.ref (ad 0)] : List Value)).toArray s 0 0 A) (F0 m 4 ls []) := by
    intro n4
    induction n4 with
    | zero => intro x1 x2 H locs ls hf; cases hf
    | succ n4 ih =>
      have ih4 := ih
      intro x1 x2 H locs ls hf hw hl
      simp only [f_X6_insideSet_l4] at hf
      refine lv_iload_n hx hb dX6_insideSet_4 rfl (lv_at hl 2 rfl) ?_
      refine lv_aload_n hx hb dX6_insideSet_5 rfl (lv_at hl 0 rfl) ?_
      refine q_get hx hb hts hiX6 hown hw 0 ma_0 rfl 1 (by decide) (hts (.fieldLink RX6 7 "LaceRanksModel" "s" "[I") (by decide +kernel)) rfl dX6_insideSet_6 ?_
      refine lv_iconst (v := 1) hx hb dX6_insideSet_9 (by decide) ?_
      obtain ⟨hg, hf⟩ := gdE hf
      obtain ⟨v1, hv1, hf⟩ := nmE hf
      refine q_iald hx hb hw 1 ma_1 (inb_in hg) dX6_insideSet_10 ?_
      refine q_is hv1 ?_
      refine lv_icmp_ge (tgt := 32) hx hb dX6_insideSet_11 (by decide) (fun hc => ?_) (fun hc => ?_)
      · have hf := iteT hf hc
        refine lv_iload_n hx hb dX6_insideSet_32 rfl (lv_at hl 1 rfl) ?_
        cases hf
        exact q_iret hx hb hr hlocks hw dX6_insideSet_33
      · have hf := iteF hf hc
        refine lv_iload_n hx hb dX6_insideSet_14 rfl (lv_at hl 1 rfl) ?_
        refine lv_aload_n hx hb dX6_insideSet_15 rfl (lv_at hl 0 rfl) ?_
        refine lv_iload_n hx hb dX6_insideSet_16 rfl (lv_at hl 2 rfl) ?_
        refine lv_bipush (v := 6) hx hb dX6_insideSet_17 (by decide) ?_
        obtain ⟨r2, hr2, hf⟩ := bndS hf
        refine q_callV (rest := [.int x1]) (st1 := [.int r2, .int x1]) [.int x2, .int 6] ⟨hx, hb, hml, hown, hts⟩ (c_X6_of hr2) (cwV 2 hts gX6_insideSet_X6_of rfl rfl rfl (by decide +kernel) ⟨Nat.le_of_ble_eq_true rfl, Nat.le_of_ble_eq_true rfl⟩) hw ma_0 rfl rfl hl.1 rfl (Nat.le_of_ble_eq_true rfl) dX6_insideSet_19 ⟨Nat.zero_le _, Nat.zero_le _⟩ rfl (fun H locs hw => ?_)
        refine lv_iload_n hx hb dX6_insideSet_22 rfl (lv_at hl 2 rfl) ?_
        refine lv_ishl hx hb dX6_insideSet_23 ?_
        refine lv_ior hx hb dX6_insideSet_24 ?_
        obtain ⟨v3, hv3, hf⟩ := nmE hf
        refine q_is hv3 ?_
        refine lv_istore_n (lv' := [(1, .int v3), (0, .ref (ad 0)), (2, .int x2)]) hx hb dX6_insideSet_25 rfl hl (by decide) rfl (fun ls hl => ?_)
        obtain ⟨v4, hv4, hf⟩ := nmE hf
        refine lv_iinc (v := v4) (lv' := [(2, .int v4), (1, .int v3), (0, .ref (ad 0))]) hx hb dX6_insideSet_26 hl (k := 2) rfl (by rw [hv4]; rfl) (by decide) rfl (fun ls hl => ?_)
        refine lv_goto (tgt := 4) hx hb dX6_insideSet_29 (by decide) ?_
        exact ih4 v3 v4 H locs ls hf hw (lv_sub hl [2, 1, 0] rfl)
  refine lv_iconst (v := 0) hx hb dX6_insideSet_0 (by decide) ?_
  refine lv_istore_n (lv' := [(1, .int 0), (0, .ref (ad 0))]) hx hb dX6_insideSet_1 rfl hl (by decide) rfl (fun ls hl => ?_)
  refine lv_iconst (v := 0) hx hb dX6_insideSet_2 (by decide) ?_
  refine lv_istore_n (lv' := [(2, .int 0), (1, .int 0), (0, .ref (ad 0))]) hx hb dX6_insideSet_3 rfl hl (by decide) rfl (fun ls hl => ?_)
  exact L4 fuelN 0 0 H locs ls hf hw (lv_sub hl [2, 1, 0] rfl)

def f_X6_counted_b220  (M : MS)  (x1 : Int32) : Option Int32 := gd (inb ((10 + x1) - 15) 952) (nm (M.1 0 ((10 + x1) - 15).toNatClampNeg) (fun v1 => some v1))
def f_X6_counted (M : MS)  (a1 : Int32) : Option Int32 := (if a1 = 0 then gd (inb 0 952) (nm (M.1 0 (0 : Int32).toNatClampNeg) (fun v1 => some v1)) else (if a1 = 1 then gd (inb 1 952) (nm (M.1 0 (1 : Int32).toNatClampNeg) (fun v2 => some v2)) else (if a1 = 2 then bnd (f_X6_total M 6) (fun r3 => some r3) else (if a1 = 3 then bnd (f_X6_lineLength M 0) (fun r4 => bnd (f_X6_lineLength M 1) (fun r5 => bnd (f_X6_lineLength M 2) (fun r6 => some ((r4 + r5) + r6)))) else (if a1 = 4 then bnd (f_X6_total M 1) (fun r7 => some r7) else (if a1 = 5 then gd (inb 2 952) (nm (M.1 0 (2 : Int32).toNatClampNeg) (fun v8 => some v8)) else (if a1 = 6 then bnd (f_X6_total M 2) (fun r9 => some r9) else (if a1 = 7 then gd (inb 4 952) (nm (M.1 0 (4 : Int32).toNatClampNeg) (fun v10 => some v10)) else (if a1 = 8 then bnd (f_X6_total M 3) (fun r11 => some r11) else (if a1 = 9 then gd (inb 3 952) (nm (M.1 0 (3 : Int32).toNatClampNeg) (fun v12 => some v12)) else (if a1 = 10 then gd (inb 5 952) (nm (M.1 0 (5 : Int32).toNatClampNeg) (fun v13 => some v13)) else (if a1 = 11 then gd (inb 6 952) (nm (M.1 0 (6 : Int32).toNatClampNeg) (fun v14 => some v14)) else (if a1 = 12 then gd (inb 7 952) (nm (M.1 0 (7 : Int32).toNatClampNeg) (fun v15 => some v15)) else (if a1 = 13 then bnd (f_X6_masked M) (fun r16 => some r16) else (if a1 = 14 then bnd (f_X6_insideSet M) (fun r17 => some r17) else (if a1 = 15 then f_X6_counted_b220 M a1 else (if a1 = 16 then f_X6_counted_b220 M a1 else (if a1 = 17 then f_X6_counted_b220 M a1 else (if a1 = 18 then f_X6_counted_b220 M a1 else (if a1 = 19 then f_X6_counted_b220 M a1 else (if a1 = 20 then f_X6_counted_b220 M a1 else (if a1 = 21 then some (M.1 3 1) else (f_X6_counted_b220 M a1)))))))))))))))))))))))
set_option maxHeartbeats 4000000 in
set_option maxRecDepth 100000 in
theorem c_X6_counted {l : Launch} {D : va_G} {cI cR : ClassId} {ad : Nat → Nat} {A : Nat → Prop} {M : MS}  {a1 : Int32} {r : Int32}  (hf : f_X6_counted M a1 = some r) : MC l yX6_counted wsX6_counted 2 45 D cI cR A [.ref (ad 0), .int a1] (mws cI ad M) (some (.int r)) (mws cI ad M) := by
  refine Met.ofW (cc := cX6_counted) (maxL := 2) (ret := (some .int)) (by decide) rfl ?_
  intro p e s m args below meth c s₁ B hml hv
  obtain ⟨rfl, hw⟩ := q_start hv
  have hx := B.exec
  have hb := B.bytes
  have hr := B.returns
  have hts := atoms_spec (ws := wsX6_counted) B.pre
  have hown : s.vm.findClass RX6 = some m.cls := findClass_of_methodNamed B.named
  have hlocks := B.notSynchronized
  have hiX6 : ∀ w ∈ wsX60, w ∈ wsX6_counted := by decide +kernel
  have hl := lv_entry ([.ref (ad 0), .int a1]) (n := 2) (Nat.le_of_ble_eq_true rfl)
  rw [lg_entry_eq]
  generalize (lg_sl ([.ref (ad 0), .int a1]) ++ List.replicate (2 - (lg_sl ([.ref (ad 0), .int a1])).length) Slot.unset).toArray = ls at hl ⊢
  have hl : lv_has ls 2 [(0, .ref (ad 0)), (1, .int a1)] := hl
  unfold f_X6_counted at hf
  obtain ⟨H, eH⟩ : ∃ H, H = s.heap := ⟨_, rfl⟩
  obtain ⟨locs, eL⟩ : ∃ L : List Loc, L = [] := ⟨_, rfl⟩
  rw [← eH, ← eL] at hw ⊢
  clear eH eL
  have B220 : ∀ (x1 : Int32) (H : Heap) (locs : List Loc) (ls : Array Slot), f_X6_counted_b220 M x1 = some r → WH D cI cR A (mws cI ad M) s H locs → lv_has ls 2 [(0, .ref (ad 0)), (1, .int x1)] → W p l e (headSpec wsX6_counted ({ frames := 2, cells := 0, slots := 0, locals := 45 })).room s m ([.ref (ad 0), .int a1] : List Value).toArray below meth c H locs 0 0 (MQ below (QV (some (.int r)) D A (mws cI ad M)) (([.ref (ad 0), .int a1] : List Value)).toArray s 0 0 A) (F0 m 220 ls []) := by
    intro x1 H locs ls hf hw hl
    unfold f_X6_counted_b220 at hf
    refine lv_aload_n hx hb dX6_counted_220 rfl (lv_at hl 0 rfl) ?_
    refine q_get hx hb hts hiX6 hown hw 0 ma_0 rfl 1 (by decide) (hts (.fieldLink RX6 7 "LaceRanksModel" "s" "[I") (by decide +kernel)) rfl dX6_counted_221 ?_
    refine lv_bipush (v := 10) hx hb dX6_counted_224 (by decide) ?_
    refine lv_iload_n hx hb dX6_counted_226 rfl (lv_at hl 1 rfl) ?_
    refine lv_iadd hx hb dX6_counted_227 ?_
    refine lv_bipush (v := 15) hx hb dX6_counted_228 (by decide) ?_
    refine lv_isub hx hb dX6_counted_230 ?_
    obtain ⟨hg, hf⟩ := gdE hf
    obtain ⟨v1, hv1, hf⟩ := nmE hf
    refine q_iald hx hb hw 1 ma_1 (inb_in hg) dX6_counted_231 ?_
    refine q_is hv1 ?_
    cases hf
    exact q_iret hx hb hr hlocks hw dX6_counted_232
  refine lv_iload_n hx hb dX6_counted_0 rfl (lv_at hl 1 rfl) ?_
  by_cases hc0 : a1 = 0
  · have hf := iteT hf hc0
    refine lv_tableIn (tgt := 104) hx hb dX6_counted_1 (by rw [hc0]; decide) (by rw [hc0]; decide) (by rw [hc0]; rfl) (by decide) ?_
    refine lv_aload_n hx hb dX6_counted_104 rfl (lv_at hl 0 rfl) ?_
    refine q_get hx hb hts hiX6 hown hw 0 ma_0 rfl 1 (by decide) (hts (.fieldLink RX6 7 "LaceRanksModel" "s" "[I") (by decide +kernel)) rfl dX6_counted_105 ?_
    refine lv_iconst (v := 0) hx hb dX6_counted_108 (by decide) ?_
    obtain ⟨hg, hf⟩ := gdE hf
    obtain ⟨v1, hv1, hf⟩ := nmE hf
    refine q_iald hx hb hw 1 ma_1 (inb_in hg) dX6_counted_109 ?_
    refine q_is hv1 ?_
    cases hf
    exact q_iret hx hb hr hlocks hw dX6_counted_110
  replace hf := iteF hf hc0
  by_cases hc1 : a1 = 1
  · have hf := iteT hf hc1
    refine lv_tableIn (tgt := 111) hx hb dX6_counted_1 (by rw [hc1]; decide) (by rw [hc1]; decide) (by rw [hc1]; rfl) (by decide) ?_
    refine lv_aload_n hx hb dX6_counted_111 rfl (lv_at hl 0 rfl) ?_
    refine q_get hx hb hts hiX6 hown hw 0 ma_0 rfl 1 (by decide) (hts (.fieldLink RX6 7 "LaceRanksModel" "s" "[I") (by decide +kernel)) rfl dX6_counted_112 ?_
    refine lv_iconst (v := 1) hx hb dX6_counted_115 (by decide) ?_
    obtain ⟨hg, hf⟩ := gdE hf
    obtain ⟨v2, hv2, hf⟩ := nmE hf
    refine q_iald hx hb hw 1 ma_1 (inb_in hg) dX6_counted_116 ?_
    refine q_is hv2 ?_
    cases hf
    exact q_iret hx hb hr hlocks hw dX6_counted_117
  replace hf := iteF hf hc1
  by_cases hc2 : a1 = 2
  · have hf := iteT hf hc2
    refine lv_tableIn (tgt := 118) hx hb dX6_counted_1 (by rw [hc2]; decide) (by rw [hc2]; decide) (by rw [hc2]; rfl) (by decide) ?_
    refine lv_aload_n hx hb dX6_counted_118 rfl (lv_at hl 0 rfl) ?_
    refine lv_bipush (v := 6) hx hb dX6_counted_119 (by decide) ?_
    obtain ⟨r3, hr3, hf⟩ := bndS hf
    refine q_callV (rest := []) (st1 := [.int r3]) [.int 6] ⟨hx, hb, hml, hown, hts⟩ (c_X6_total hr3) (cwV 1 hts gX6_counted_X6_total rfl rfl rfl (by decide +kernel) ⟨Nat.le_of_ble_eq_true rfl, Nat.le_of_ble_eq_true rfl⟩) hw ma_0 rfl rfl hl.1 rfl (Nat.le_of_ble_eq_true rfl) dX6_counted_121 ⟨Nat.zero_le _, Nat.zero_le _⟩ rfl (fun H locs hw => ?_)
    cases hf
    exact q_iret hx hb hr hlocks hw dX6_counted_124
  replace hf := iteF hf hc2
  by_cases hc3 : a1 = 3
  · have hf := iteT hf hc3
    refine lv_tableIn (tgt := 125) hx hb dX6_counted_1 (by rw [hc3]; decide) (by rw [hc3]; decide) (by rw [hc3]; rfl) (by decide) ?_
    refine lv_aload_n hx hb dX6_counted_125 rfl (lv_at hl 0 rfl) ?_
    refine lv_iconst (v := 0) hx hb dX6_counted_126 (by decide) ?_
    obtain ⟨r4, hr4, hf⟩ := bndS hf
    refine q_callV (rest := []) (st1 := [.int r4]) [.int 0] ⟨hx, hb, hml, hown, hts⟩ (c_X6_lineLength hr4) (cwV 1 hts gX6_counted_X6_lineLength rfl rfl rfl (by decide +kernel) ⟨Nat.le_of_ble_eq_true rfl, Nat.le_of_ble_eq_true rfl⟩) hw ma_0 rfl rfl hl.1 rfl (Nat.le_of_ble_eq_true rfl) dX6_counted_127 ⟨Nat.zero_le _, Nat.zero_le _⟩ rfl (fun H locs hw => ?_)
    refine lv_aload_n hx hb dX6_counted_130 rfl (lv_at hl 0 rfl) ?_
    refine lv_iconst (v := 1) hx hb dX6_counted_131 (by decide) ?_
    obtain ⟨r5, hr5, hf⟩ := bndS hf
    refine q_callV (rest := [.int r4]) (st1 := [.int r5, .int r4]) [.int 1] ⟨hx, hb, hml, hown, hts⟩ (c_X6_lineLength hr5) (cwV 1 hts gX6_counted_X6_lineLength rfl rfl rfl (by decide +kernel) ⟨Nat.le_of_ble_eq_true rfl, Nat.le_of_ble_eq_true rfl⟩) hw ma_0 rfl rfl hl.1 rfl (Nat.le_of_ble_eq_true rfl) dX6_counted_132 ⟨Nat.zero_le _, Nat.zero_le _⟩ rfl (fun H locs hw => ?_)
    refine lv_iadd hx hb dX6_counted_135 ?_
    refine lv_aload_n hx hb dX6_counted_136 rfl (lv_at hl 0 rfl) ?_
    refine lv_iconst (v := 2) hx hb dX6_counted_137 (by decide) ?_
    obtain ⟨r6, hr6, hf⟩ := bndS hf
    refine q_callV (rest := [.int (r4 + r5)]) (st1 := [.int r6, .int (r4 + r5)]) [.int 2] ⟨hx, hb, hml, hown, hts⟩ (c_X6_lineLength hr6) (cwV 1 hts gX6_counted_X6_lineLength rfl rfl rfl (by decide +kernel) ⟨Nat.le_of_ble_eq_true rfl, Nat.le_of_ble_eq_true rfl⟩) hw ma_0 rfl rfl hl.1 rfl (Nat.le_of_ble_eq_true rfl) dX6_counted_138 ⟨Nat.zero_le _, Nat.zero_le _⟩ rfl (fun H locs hw => ?_)
    refine lv_iadd hx hb dX6_counted_141 ?_
    cases hf
    exact q_iret hx hb hr hlocks hw dX6_counted_142
  replace hf := iteF hf hc3
  by_cases hc4 : a1 = 4
  · have hf := iteT hf hc4
    refine lv_tableIn (tgt := 143) hx hb dX6_counted_1 (by rw [hc4]; decide) (by rw [hc4]; decide) (by rw [hc4]; rfl) (by decide) ?_
    refine lv_aload_n hx hb dX6_counted_143 rfl (lv_at hl 0 rfl) ?_
    refine lv_iconst (v := 1) hx hb dX6_counted_144 (by decide) ?_
    obtain ⟨r7, hr7, hf⟩ := bndS hf
    refine q_callV (rest := []) (st1 := [.int r7]) [.int 1] ⟨hx, hb, hml, hown, hts⟩ (c_X6_total hr7) (cwV 1 hts gX6_counted_X6_total rfl rfl rfl (by decide +kernel) ⟨Nat.le_of_ble_eq_true rfl, Nat.le_of_ble_eq_true rfl⟩) hw ma_0 rfl rfl hl.1 rfl (Nat.le_of_ble_eq_true rfl) dX6_counted_145 ⟨Nat.zero_le _, Nat.zero_le _⟩ rfl (fun H locs hw => ?_)
    cases hf
    exact q_iret hx hb hr hlocks hw dX6_counted_148
  replace hf := iteF hf hc4
  by_cases hc5 : a1 = 5
  · have hf := iteT hf hc5
    refine lv_tableIn (tgt := 149) hx hb dX6_counted_1 (by rw [hc5]; decide) (by rw [hc5]; decide) (by rw [hc5]; rfl) (by decide) ?_
    refine lv_aload_n hx hb dX6_counted_149 rfl (lv_at hl 0 rfl) ?_
    refine q_get hx hb hts hiX6 hown hw 0 ma_0 rfl 1 (by decide) (hts (.fieldLink RX6 7 "LaceRanksModel" "s" "[I") (by decide +kernel)) rfl dX6_counted_150 ?_
    refine lv_iconst (v := 2) hx hb dX6_counted_153 (by decide) ?_
    obtain ⟨hg, hf⟩ := gdE hf
    obtain ⟨v8, hv8, hf⟩ := nmE hf
    refine q_iald hx hb hw 1 ma_1 (inb_in hg) dX6_counted_154 ?_
    refine q_is hv8 ?_
    cases hf
    exact q_iret hx hb hr hlocks hw dX6_counted_155
  replace hf := iteF hf hc5
  by_cases hc6 : a1 = 6
  · have hf := iteT hf hc6
    refine lv_tableIn (tgt := 156) hx hb dX6_counted_1 (by rw [hc6]; decide) (by rw [hc6]; decide) (by rw [hc6]; rfl) (by decide) ?_
    refine lv_aload_n hx hb dX6_counted_156 rfl (lv_at hl 0 rfl) ?_
    refine lv_iconst (v := 2) hx hb dX6_counted_157 (by decide) ?_
    obtain ⟨r9, hr9, hf⟩ := bndS hf
    refine q_callV (rest := []) (st1 := [.int r9]) [.int 2] ⟨hx, hb, hml, hown, hts⟩ (c_X6_total hr9) (cwV 1 hts gX6_counted_X6_total rfl rfl rfl (by decide +kernel) ⟨Nat.le_of_ble_eq_true rfl, Nat.le_of_ble_eq_true rfl⟩) hw ma_0 rfl rfl hl.1 rfl (Nat.le_of_ble_eq_true rfl) dX6_counted_158 ⟨Nat.zero_le _, Nat.zero_le _⟩ rfl (fun H locs hw => ?_)
    cases hf
    exact q_iret hx hb hr hlocks hw dX6_counted_161
  replace hf := iteF hf hc6
  by_cases hc7 : a1 = 7
  · have hf := iteT hf hc7
    refine lv_tableIn (tgt := 162) hx hb dX6_counted_1 (by rw [hc7]; decide) (by rw [hc7]; decide) (by rw [hc7]; rfl) (by decide) ?_
    refine lv_aload_n hx hb dX6_counted_162 rfl (lv_at hl 0 rfl) ?_
    refine q_get hx hb hts hiX6 hown hw 0 ma_0 rfl 1 (by decide) (hts (.fieldLink RX6 7 "LaceRanksModel" "s" "[I") (by decide +kernel)) rfl dX6_counted_163 ?_
    refine lv_iconst (v := 4) hx hb dX6_counted_166 (by decide) ?_
    obtain ⟨hg, hf⟩ := gdE hf
    obtain ⟨v10, hv10, hf⟩ := nmE hf
    refine q_iald hx hb hw 1 ma_1 (inb_in hg) dX6_counted_167 ?_
    refine q_is hv10 ?_
    cases hf
    exact q_iret hx hb hr hlocks hw dX6_counted_168
  replace hf := iteF hf hc7
  by_cases hc8 : a1 = 8
  · have hf := iteT hf hc8
    refine lv_tableIn (tgt := 169) hx hb dX6_counted_1 (by rw [hc8]; decide) (by rw [hc8]; decide) (by rw [hc8]; rfl) (by decide) ?_
    refine lv_aload_n hx hb dX6_counted_169 rfl (lv_at hl 0 rfl) ?_
    refine lv_iconst (v := 3) hx hb dX6_counted_170 (by decide) ?_
    obtain ⟨r11, hr11, hf⟩ := bndS hf
    refine q_callV (rest := []) (st1 := [.int r11]) [.int 3] ⟨hx, hb, hml, hown, hts⟩ (c_X6_total hr11) (cwV 1 hts gX6_counted_X6_total rfl rfl rfl (by decide +kernel) ⟨Nat.le_of_ble_eq_true rfl, Nat.le_of_ble_eq_true rfl⟩) hw ma_0 rfl rfl hl.1 rfl (Nat.le_of_ble_eq_true rfl) dX6_counted_171 ⟨Nat.zero_le _, Nat.zero_le _⟩ rfl (fun H locs hw => ?_)
    cases hf
    exact q_iret hx hb hr hlocks hw dX6_counted_174
  replace hf := iteF hf hc8
  by_cases hc9 : a1 = 9
  · have hf := iteT hf hc9
    refine lv_tableIn (tgt := 175) hx hb dX6_counted_1 (by rw [hc9]; decide) (by rw [hc9]; decide) (by rw [hc9]; rfl) (by decide) ?_
    refine lv_aload_n hx hb dX6_counted_175 rfl (lv_at hl 0 rfl) ?_
    refine q_get hx hb hts hiX6 hown hw 0 ma_0 rfl 1 (by decide) (hts (.fieldLink RX6 7 "LaceRanksModel" "s" "[I") (by decide +kernel)) rfl dX6_counted_176 ?_
    refine lv_iconst (v := 3) hx hb dX6_counted_179 (by decide) ?_
    obtain ⟨hg, hf⟩ := gdE hf
    obtain ⟨v12, hv12, hf⟩ := nmE hf
    refine q_iald hx hb hw 1 ma_1 (inb_in hg) dX6_counted_180 ?_
    refine q_is hv12 ?_
    cases hf
    exact q_iret hx hb hr hlocks hw dX6_counted_181
  replace hf := iteF hf hc9
  by_cases hc10 : a1 = 10
  · have hf := iteT hf hc10
    refine lv_tableIn (tgt := 182) hx hb dX6_counted_1 (by rw [hc10]; decide) (by rw [hc10]; decide) (by rw [hc10]; rfl) (by decide) ?_
    refine lv_aload_n hx hb dX6_counted_182 rfl (lv_at hl 0 rfl) ?_
    refine q_get hx hb hts hiX6 hown hw 0 ma_0 rfl 1 (by decide) (hts (.fieldLink RX6 7 "LaceRanksModel" "s" "[I") (by decide +kernel)) rfl dX6_counted_183 ?_
    refine lv_iconst (v := 5) hx hb dX6_counted_186 (by decide) ?_
    obtain ⟨hg, hf⟩ := gdE hf
    obtain ⟨v13, hv13, hf⟩ := nmE hf
    refine q_iald hx hb hw 1 ma_1 (inb_in hg) dX6_counted_187 ?_
    refine q_is hv13 ?_
    cases hf
    exact q_iret hx hb hr hlocks hw dX6_counted_188
  replace hf := iteF hf hc10
  by_cases hc11 : a1 = 11
  · have hf := iteT hf hc11
    refine lv_tableIn (tgt := 189) hx hb dX6_counted_1 (by rw [hc11]; decide) (by rw [hc11]; decide) (by rw [hc11]; rfl) (by decide) ?_
    refine lv_aload_n hx hb dX6_counted_189 rfl (lv_at hl 0 rfl) ?_
    refine q_get hx hb hts hiX6 hown hw 0 ma_0 rfl 1 (by decide) (hts (.fieldLink RX6 7 "LaceRanksModel" "s" "[I") (by decide +kernel)) rfl dX6_counted_190 ?_
    refine lv_bipush (v := 6) hx hb dX6_counted_193 (by decide) ?_
    obtain ⟨hg, hf⟩ := gdE hf
    obtain ⟨v14, hv14, hf⟩ := nmE hf
    refine q_iald hx hb hw 1 ma_1 (inb_in hg) dX6_counted_195 ?_
    refine q_is hv14 ?_
    cases hf
    exact q_iret hx hb hr hlocks hw dX6_counted_196
  replace hf := iteF hf hc11
  by_cases hc12 : a1 = 12
  · have hf := iteT hf hc12
    refine lv_tableIn (tgt := 197) hx hb dX6_counted_1 (by rw [hc12]; decide) (by rw [hc12]; decide) (by rw [hc12]; rfl) (by decide) ?_
    refine lv_aload_n hx hb dX6_counted_197 rfl (lv_at hl 0 rfl) ?_
    refine q_get hx hb hts hiX6 hown hw 0 ma_0 rfl 1 (by decide) (hts (.fieldLink RX6 7 "LaceRanksModel" "s" "[I") (by decide +kernel)) rfl dX6_counted_198 ?_
    refine lv_bipush (v := 7) hx hb dX6_counted_201 (by decide) ?_
    obtain ⟨hg, hf⟩ := gdE hf
    obtain ⟨v15, hv15, hf⟩ := nmE hf
    refine q_iald hx hb hw 1 ma_1 (inb_in hg) dX6_counted_203 ?_
    refine q_is hv15 ?_
    cases hf
    exact q_iret hx hb hr hlocks hw dX6_counted_204
  replace hf := iteF hf hc12
  by_cases hc13 : a1 = 13
  · have hf := iteT hf hc13
    refine lv_tableIn (tgt := 205) hx hb dX6_counted_1 (by rw [hc13]; decide) (by rw [hc13]; decide) (by rw [hc13]; rfl) (by decide) ?_
    refine lv_aload_n hx hb dX6_counted_205 rfl (lv_at hl 0 rfl) ?_
    obtain ⟨r16, hr16, hf⟩ := bndS hf
    refine q_callV (rest := []) (st1 := [.int r16]) [] ⟨hx, hb, hml, hown, hts⟩ (c_X6_masked hr16) (cwV 0 hts gX6_counted_X6_masked rfl rfl rfl (by decide +kernel) ⟨Nat.le_of_ble_eq_true rfl, Nat.le_of_ble_eq_true rfl⟩) hw ma_0 rfl rfl hl.1 rfl (Nat.le_of_ble_eq_true rfl) dX6_counted_206 ⟨Nat.zero_le _, Nat.zero_le _⟩ rfl (fun H locs hw => ?_)
    cases hf
    exact q_iret hx hb hr hlocks hw dX6_counted_209
  replace hf := iteF hf hc13
  by_cases hc14 : a1 = 14
  · have hf := iteT hf hc14
    refine lv_tableIn (tgt := 210) hx hb dX6_counted_1 (by rw [hc14]; decide) (by rw [hc14]; decide) (by rw [hc14]; rfl) (by decide) ?_
    refine lv_aload_n hx hb dX6_counted_210 rfl (lv_at hl 0 rfl) ?_
    obtain ⟨r17, hr17, hf⟩ := bndS hf
    refine q_callV (rest := []) (st1 := [.int r17]) [] ⟨hx, hb, hml, hown, hts⟩ (c_X6_insideSet hr17) (cwV 0 hts gX6_counted_X6_insideSet rfl rfl rfl (by decide +kernel) ⟨Nat.le_of_ble_eq_true rfl, Nat.le_of_ble_eq_true rfl⟩) hw ma_0 rfl rfl hl.1 rfl (Nat.le_of_ble_eq_true rfl) dX6_counted_211 ⟨Nat.zero_le _, Nat.zero_le _⟩ rfl (fun H locs hw => ?_)
    cases hf
    exact q_iret hx hb hr hlocks hw dX6_counted_214
  replace hf := iteF hf hc14
  by_cases hc15 : a1 = 15
  · have hf := iteT hf hc15
    refine lv_tableIn (tgt := 220) hx hb dX6_counted_1 (by rw [hc15]; decide) (by rw [hc15]; decide) (by rw [hc15]; rfl) (by decide) ?_
    exact B220 a1 H locs ls hf hw (lv_sub hl [0, 1] rfl)
  replace hf := iteF hf hc15
  by_cases hc16 : a1 = 16
  · have hf := iteT hf hc16
    refine lv_tableIn (tgt := 220) hx hb dX6_counted_1 (by rw [hc16]; decide) (by rw [hc16]; decide) (by rw [hc16]; rfl) (by decide) ?_
    exact B220 a1 H locs ls hf hw (lv_sub hl [0, 1] rfl)
  replace hf := iteF hf hc16
  by_cases hc17 : a1 = 17
  · have hf := iteT hf hc17
    refine lv_tableIn (tgt := 220) hx hb dX6_counted_1 (by rw [hc17]; decide) (by rw [hc17]; decide) (by rw [hc17]; rfl) (by decide) ?_
    exact B220 a1 H locs ls hf hw (lv_sub hl [0, 1] rfl)
  replace hf := iteF hf hc17
  by_cases hc18 : a1 = 18
  · have hf := iteT hf hc18
    refine lv_tableIn (tgt := 220) hx hb dX6_counted_1 (by rw [hc18]; decide) (by rw [hc18]; decide) (by rw [hc18]; rfl) (by decide) ?_
    exact B220 a1 H locs ls hf hw (lv_sub hl [0, 1] rfl)
  replace hf := iteF hf hc18
  by_cases hc19 : a1 = 19
  · have hf := iteT hf hc19
    refine lv_tableIn (tgt := 220) hx hb dX6_counted_1 (by rw [hc19]; decide) (by rw [hc19]; decide) (by rw [hc19]; rfl) (by decide) ?_
    exact B220 a1 H locs ls hf hw (lv_sub hl [0, 1] rfl)
  replace hf := iteF hf hc19
  by_cases hc20 : a1 = 20
  · have hf := iteT hf hc20
    refine lv_tableIn (tgt := 220) hx hb dX6_counted_1 (by rw [hc20]; decide) (by rw [hc20]; decide) (by rw [hc20]; rfl) (by decide) ?_
    exact B220 a1 H locs ls hf hw (lv_sub hl [0, 1] rfl)
  replace hf := iteF hf hc20
  by_cases hc21 : a1 = 21
  · have hf := iteT hf hc21
    refine lv_tableIn (tgt := 215) hx hb dX6_counted_1 (by rw [hc21]; decide) (by rw [hc21]; decide) (by rw [hc21]; rfl) (by decide) ?_
    refine lv_aload_n hx hb dX6_counted_215 rfl (lv_at hl 0 rfl) ?_
    refine q_get hx hb hts hiX6 hown hw 0 ma_0 rfl 2 (by decide) (hts (.fieldLink RX6 66 "LaceRanksModel" "saved" "I") (by decide +kernel)) rfl dX6_counted_216 ?_
    cases hf
    exact q_iret hx hb hr hlocks hw dX6_counted_219
  replace hf := iteF hf hc21
  have nhc0 := ne_toInt hc0 (k := 0) (by decide)
  have nhc1 := ne_toInt hc1 (k := 1) (by decide)
  have nhc2 := ne_toInt hc2 (k := 2) (by decide)
  have nhc3 := ne_toInt hc3 (k := 3) (by decide)
  have nhc4 := ne_toInt hc4 (k := 4) (by decide)
  have nhc5 := ne_toInt hc5 (k := 5) (by decide)
  have nhc6 := ne_toInt hc6 (k := 6) (by decide)
  have nhc7 := ne_toInt hc7 (k := 7) (by decide)
  have nhc8 := ne_toInt hc8 (k := 8) (by decide)
  have nhc9 := ne_toInt hc9 (k := 9) (by decide)
  have nhc10 := ne_toInt hc10 (k := 10) (by decide)
  have nhc11 := ne_toInt hc11 (k := 11) (by decide)
  have nhc12 := ne_toInt hc12 (k := 12) (by decide)
  have nhc13 := ne_toInt hc13 (k := 13) (by decide)
  have nhc14 := ne_toInt hc14 (k := 14) (by decide)
  have nhc15 := ne_toInt hc15 (k := 15) (by decide)
  have nhc16 := ne_toInt hc16 (k := 16) (by decide)
  have nhc17 := ne_toInt hc17 (k := 17) (by decide)
  have nhc18 := ne_toInt hc18 (k := 18) (by decide)
  have nhc19 := ne_toInt hc19 (k := 19) (by decide)
  have nhc20 := ne_toInt hc20 (k := 20) (by decide)
  have nhc21 := ne_toInt hc21 (k := 21) (by decide)
  refine lv_tableOut (tgt := 220) hx hb dX6_counted_1 (by omega) (by decide) ?_
  exact B220 a1 H locs ls hf hw (lv_sub hl [0, 1] rfl)
