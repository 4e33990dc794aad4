def f_X6_copies_l2    : Nat → MS → Int32 → Int32 → Int32 → Option MS
  | 0, _, _, _, _ => none
  | n2 + 1, M, x1, x2, x3 => (if 119 ≤ x3 then some M else gd (inb ((119 * x1) + x3) 952) (nm (M.1 0 ((119 * x1) + x3).toNatClampNeg) (fun v1 => gd (inb ((119 * x2) + x3) 952) (nm (upM M 0 (upd (M.1 0) ((119 * x2) + x3).toNatClampNeg v1)) (fun M2 => nm (x3 + 1) (fun v3 => (f_X6_copies_l2 n2) M2 x1 x2 v3))))))
def f_X6_copies (M : MS)  (a1 : Int32) (a2 : Int32) : Option MS := f_X6_copies_l2 fuelN M a1 a2 0
set_option maxHeartbeats 4000000 in
set_option maxRecDepth 100000 in
theorem c_X6_copies {l : Launch} {D : va_G} {cI cR : ClassId} {ad : Nat → Nat} {A : Nat → Prop} {M : MS} {M' : MS} {a1 : Int32} {a2 : Int32}   (hf : f_X6_copies M a1 a2 = some M') : MC l yX6_copies wsX6_copies 0 0 D cI cR A [.ref (ad 0), .int a1, .int a2] (mws cI ad M) none (mws cI ad M') := by
  refine Met.ofW (cc := cX6_copies) (maxL := 4) (ret := none) (by decide) rfl ?_
  intro p e s m args below meth c s₁ B hml hv
  obtain ⟨rfl, hw⟩ := q_start hv
  have hx := B.exec
  have hb := B.bytes
  have hr := B.returns
  have hts := atoms_spec (ws := wsX6_copies) B.pre
  have hown : s.vm.findClass RX6 = some m.cls := findClass_of_methodNamed B.named
  have hlocks := B.notSynchronized
  have hiX6 : ∀ w ∈ wsX60, w ∈ wsX6_copies := by decide +kernel
  have hl := lv_entry ([.ref (ad 0), .int a1, .int a2]) (n := 4) (Nat.le_of_ble_eq_true rfl)
  rw [lg_entry_eq]
  generalize (lg_sl ([.ref (ad 0), .int a1, .int a2]) ++ List.replicate (4 - (lg_sl ([.ref (ad 0), .int a1, .int a2])).length) Slot.unset).toArray = ls at hl ⊢
  have hl : lv_has ls 4 [(0, .ref (ad 0)), (1, .int a1), (2, .int a2)] := hl
  unfold f_X6_copies at hf
  obtain ⟨H, eH⟩ : ∃ H, H = s.heap := ⟨_, rfl⟩
  obtain ⟨locs, eL⟩ : ∃ L : List Loc, L = [] := ⟨_, rfl⟩
  rw [← eH, ← eL] at hw ⊢
  clear eH eL
  have L2 : ∀ (n2 : Nat) (M : MS) (x1 : Int32) (x2 : Int32) (x3 : Int32) (H : Heap) (locs : List Loc) (ls : Array Slot), f_X6_copies_l2 n2 M x1 x2 x3 = some M' → WH D cI cR A (mws cI ad M) s H locs → lv_has ls 4 [(0, .ref (ad 0)), (1, .int x1), (2, .int x2), (3, .int x3)] → W p l e (headSpec wsX6_copies ({ frames := 0, cells := 0, slots := 0, locals := 0 })).room s m ([.ref (ad 0), .int a1, .int a2] : List Value).toArray below meth c H locs 0 0 (MQ below (QV none D A (mws cI ad M')) (([.ref (ad 0), .int a1, .int a2] : List Value)).toArray s 0 0 A) (F0 m 2 ls []) := by
    intro n2
    induction n2 with
    | zero => intro M x1 x2 x3 H locs ls hf; cases hf
    | succ n2 ih =>
      have ih2 := ih
      intro M x1 x2 x3 H locs ls hf hw hl
      simp only [f_X6_copies_l2] at hf
      refine lv_iload_n hx hb dX6_copies_2 rfl (lv_at hl 3 rfl) ?_
      refine lv_bipush (v := 119) hx hb dX6_copies_3 (by decide) ?_
      refine lv_icmp_ge (tgt := 36) hx hb dX6_copies_5 (by decide) (fun hc => ?_) (fun hc => ?_)
      · have hf := iteT hf hc
        cases hf
        exact q_vret hx hb hr hlocks hw dX6_copies_36
      · have hf := iteF hf hc
        refine lv_aload_n hx hb dX6_copies_8 rfl (lv_at hl 0 rfl) ?_
        refine q_get hx hb hts hiX6 hown hw 0 ma_0 rfl 1 (by decide) (hts (.fieldLink RX6 7 "LaceRanksModel" "s" "[I") (by decide +kernel)) rfl dX6_copies_9 ?_
        refine lv_bipush (v := 119) hx hb dX6_copies_12 (by decide) ?_
        refine lv_iload_n hx hb dX6_copies_14 rfl (lv_at hl 2 rfl) ?_
        refine lv_imul hx hb dX6_copies_15 ?_
        refine lv_iload_n hx hb dX6_copies_16 rfl (lv_at hl 3 rfl) ?_
        refine lv_iadd hx hb dX6_copies_17 ?_
        refine lv_aload_n hx hb dX6_copies_18 rfl (lv_at hl 0 rfl) ?_
        refine q_get hx hb hts hiX6 hown hw 0 ma_0 rfl 1 (by decide) (hts (.fieldLink RX6 7 "LaceRanksModel" "s" "[I") (by decide +kernel)) rfl dX6_copies_19 ?_
        refine lv_bipush (v := 119) hx hb dX6_copies_22 (by decide) ?_
        refine lv_iload_n hx hb dX6_copies_24 rfl (lv_at hl 1 rfl) ?_
        refine lv_imul hx hb dX6_copies_25 ?_
        refine lv_iload_n hx hb dX6_copies_26 rfl (lv_at hl 3 rfl) ?_
        refine lv_iadd hx hb dX6_copies_27 ?_
        obtain ⟨hg, hf⟩ := gdE hf
        obtain ⟨v1, hv1, hf⟩ := nmE hf
        refine q_iald hx hb hw 1 ma_1 (inb_in hg) dX6_copies_28 ?_
        refine q_is hv1 ?_
        obtain ⟨hg, hf⟩ := gdE hf
        obtain ⟨M2, hM2, hf⟩ := nmE hf
        refine q_iast hx hb hw 1 ma_1 (inb_in hg) dX6_copies_29 (ms_1.trans (congrArg (fun z => (mws cI ad z)) hM2.symm)) (fun H locs hw => ?_)
        obtain ⟨v3, hv3, hf⟩ := nmE hf
        refine lv_iinc (v := v3) (lv' := [(3, .int v3), (0, .ref (ad 0)), (1, .int x1), (2, .int x2)]) hx hb dX6_copies_30 hl (k := 3) rfl (by rw [hv3]; rfl) (by decide) rfl (fun ls hl => ?_)
        refine lv_goto (tgt := 2) hx hb dX6_copies_33 (by decide) ?_
        exact ih2 M2 x1 x2 v3 H locs ls hf hw (lv_sub hl [1, 2, 3, 0] rfl)
  refine lv_iconst (v := 0) hx hb dX6_copies_0 (by decide) ?_
  refine lv_istore_n (lv' := [(3, .int 0), (0, .ref (ad 0)), (1, .int a1), (2, .int a2)]) hx hb dX6_copies_1 rfl hl (by decide) rfl (fun ls hl => ?_)
  exact L2 fuelN M a1 a2 0 H locs ls hf hw (lv_sub hl [1, 2, 3, 0] rfl)

def f_X6_save_b50    (M : MS) (y0 : Int32) (y1 : Int32) : Option MS := nm (upMS M 3 1 (y1 + y0)) (fun M1 => bnd (f_X6_copies M1 0 (M1.1 3 1)) (fun M2 => some M2))
def f_X6_save_b31    (M : MS) : Option MS := (if 6 ≤ (M.1 3 1) then f_X6_save_b50 M 0 (M.1 3 1) else f_X6_save_b50 M 1 (M.1 3 1))
def f_X6_save_l2    : Nat → MS → Int32 → Option MS
  | 0, _, _ => none
  | n2 + 1, M, x1 => (if 6 ≤ x1 then f_X6_save_b31 M else (if (M.1 3 1) = 6 then bnd (f_X6_copies M (x1 + 1) x1) (fun M1 => nm (x1 + 1) (fun v2 => (f_X6_save_l2 n2) M1 v2)) else f_X6_save_b31 M))
def f_X6_save (M : MS)   : Option MS := f_X6_save_l2 fuelN M 1
set_option maxHeartbeats 4000000 in
set_option maxRecDepth 100000 in
theorem c_X6_save {l : Launch} {D : va_G} {cI cR : ClassId} {ad : Nat → Nat} {A : Nat → Prop} {M : MS} {M' : MS}    (hf : f_X6_save M = some M') : MC l yX6_save wsX6_save 1 23 D cI cR A [.ref (ad 0)] (mws cI ad M) none (mws cI ad M') := by
  refine Met.ofW (cc := cX6_save) (maxL := 2) (ret := none) (by decide) rfl ?_
  intro p e s m args below meth c s₁ B hml hv
  obtain ⟨rfl, hw⟩ := q_start hv
  have hx := B.exec
  have hb := B.bytes
  have hr := B.returns
  have hts := atoms_spec (ws := wsX6_save) B.pre
  have hown : s.vm.findClass RX6 = some m.cls := findClass_of_methodNamed B.named
  have hlocks := B.notSynchronized
  have hiX6 : ∀ w ∈ wsX60, w ∈ wsX6_save := by decide +kernel
  have hl := lv_entry ([.ref (ad 0)]) (n := 2) (Nat.le_of_ble_eq_true rfl)
  rw [lg_entry_eq]
  generalize (lg_sl ([.ref (ad 0)]) ++ List.replicate (2 - (lg_sl ([.ref (ad 0)])).length) Slot.unset).toArray = ls at hl ⊢
  have hl : lv_has ls 2 [(0, .ref (ad 0))] := hl
  unfold f_X6_save at hf
  obtain ⟨H, eH⟩ : ∃ H, H = s.heap := ⟨_, rfl⟩
  obtain ⟨locs, eL⟩ : ∃ L : List Loc, L = [] := ⟨_, rfl⟩
  rw [← eH, ← eL] at hw ⊢
  clear eH eL
  have B50 : ∀ (M : MS) (y0 : Int32) (y1 : Int32) (H : Heap) (locs : List Loc) (ls : Array Slot), f_X6_save_b50 M y0 y1 = some M' → WH D cI cR A (mws cI ad M) s H locs → lv_has ls 2 [(0, .ref (ad 0))] → W p l e (headSpec wsX6_save ({ frames := 1, cells := 0, slots := 0, locals := 23 })).room s m ([.ref (ad 0)] : List Value).toArray below meth c H locs 0 0 (MQ below (QV none D A (mws cI ad M')) (([.ref (ad 0)] : List Value)).toArray s 0 0 A) (F0 m 50 ls [.int y0, .int y1, .ref (ad 0)]) := by
    intro M y0 y1 H locs ls hf hw hl
    unfold f_X6_save_b50 at hf
    refine lv_iadd hx hb dX6_save_50 ?_
    obtain ⟨M1, hM1, hf⟩ := nmE hf
    refine q_put (ty := .int) hx hb hts hiX6 tyX6 tyX6_ok nmX6 hown hw 0 ma_0 rfl 2 (by decide) (hts (.fieldLink RX6 66 "LaceRanksModel" "saved" "I") (by decide +kernel)) rfl (by decide +kernel) rfl rfl (Nat.le_of_ble_eq_true rfl) dX6_save_51 (ms_0_2.trans (congrArg (fun z => (mws cI ad z)) hM1.symm)) (fun H locs hw => ?_)
    refine lv_aload_n hx hb dX6_save_54 rfl (lv_at hl 0 rfl) ?_
    refine lv_iconst (v := 0) hx hb dX6_save_55 (by decide) ?_
    refine lv_aload_n hx hb dX6_save_56 rfl (lv_at hl 0 rfl) ?_
    refine q_get hx hb hts hiX6 hown hw 0 ma_0 rfl 2 (by decide) (hts (.fieldLink RX6 66 "LaceRanksModel" "saved" "I") (by decide +kernel)) rfl dX6_save_57 ?_
    obtain ⟨M2, hr2, hf⟩ := bndS hf
    refine q_callV (rest := []) (st1 := []) [.int 0, .int (M1.1 3 1)] ⟨hx, hb, hml, hown, hts⟩ (c_X6_copies hr2) (cwV 2 hts gX6_save_X6_copies rfl rfl rfl (by decide +kernel) ⟨Nat.le_of_ble_eq_true rfl, Nat.le_of_ble_eq_true rfl⟩) hw ma_0 rfl rfl hl.1 rfl (Nat.le_of_ble_eq_true rfl) dX6_save_60 ⟨Nat.zero_le _, Nat.zero_le _⟩ rfl (fun H locs hw => ?_)
    cases hf
    exact q_vret hx hb hr hlocks hw dX6_save_63
  have B31 : ∀ (M : MS) (H : Heap) (locs : List Loc) (ls : Array Slot), f_X6_save_b31 M = some M' → WH D cI cR A (mws cI ad M) s H locs → lv_has ls 2 [(0, .ref (ad 0))] → W p l e (headSpec wsX6_save ({ frames := 1, cells := 0, slots := 0, locals := 23 })).room s m ([.ref (ad 0)] : List Value).toArray below meth c H locs 0 0 (MQ below (QV none D A (mws cI ad M')) (([.ref (ad 0)] : List Value)).toArray s 0 0 A) (F0 m 31 ls []) := by
    intro M H locs ls hf hw hl
    unfold f_X6_save_b31 at hf
    refine lv_aload_n hx hb dX6_save_31 rfl (lv_at hl 0 rfl) ?_
    refine lv_dup hx hb dX6_save_32 rfl ?_
    refine q_get hx hb hts hiX6 hown hw 0 ma_0 rfl 2 (by decide) (hts (.fieldLink RX6 66 "LaceRanksModel" "saved" "I") (by decide +kernel)) rfl dX6_save_33 ?_
    refine lv_aload_n hx hb dX6_save_36 rfl (lv_at hl 0 rfl) ?_
    refine q_get hx hb hts hiX6 hown hw 0 ma_0 rfl 2 (by decide) (hts (.fieldLink RX6 66 "LaceRanksModel" "saved" "I") (by decide +kernel)) rfl dX6_save_37 ?_
    refine lv_bipush (v := 6) hx hb dX6_save_40 (by decide) ?_
    refine lv_icmp_ge (tgt := 49) hx hb dX6_save_42 (by decide) (fun hc => ?_) (fun hc => ?_)
    · have hf := iteT hf hc
      refine lv_iconst (v := 0) hx hb dX6_save_49 (by decide) ?_
      exact B50 M 0 (M.1 3 1) H locs ls hf hw (lv_sub hl [0] rfl)
    · have hf := iteF hf hc
      refine lv_iconst (v := 1) hx hb dX6_save_45 (by decide) ?_
      refine lv_goto (tgt := 50) hx hb dX6_save_46 (by decide) ?_
      exact B50 M 1 (M.1 3 1) H locs ls hf hw (lv_sub hl [0] rfl)
  have L2 : ∀ (n2 : Nat) (M : MS) (x1 : Int32) (H : Heap) (locs : List Loc) (ls : Array Slot), f_X6_save_l2 n2 M x1 = some M' → WH D cI cR A (mws cI ad M) s H locs → lv_has ls 2 [(0, .ref (ad 0)), (1, .int x1)] → W p l e (headSpec wsX6_save ({ frames := 1, cells := 0, slots := 0, locals := 23 })).room s m ([.ref (ad 0)] : List Value).toArray below meth c H locs 0 0 (MQ below (QV none D A (mws cI ad M')) (([.ref (ad 0)] : List Value)).toArray s 0 0 A) (F0 m 2 ls []) := by
    intro n2
    induction n2 with
    | zero => intro M x1 H locs ls hf; cases hf
    | succ n2 ih =>
      have ih2 := ih
      intro M x1 H locs ls hf hw hl
      simp only [f_X6_save_l2] at hf
      refine lv_iload_n hx hb dX6_save_2 rfl (lv_at hl 1 rfl) ?_
      refine lv_bipush (v := 6) hx hb dX6_save_3 (by decide) ?_
      refine lv_icmp_ge (tgt := 31) hx hb dX6_save_5 (by decide) (fun hc => ?_) (fun hc => ?_)
      · have hf := iteT hf hc
        exact B31 M H locs ls hf hw (lv_sub hl [0] rfl)
      · have hf := iteF hf hc
        refine lv_aload_n hx hb dX6_save_8 rfl (lv_at hl 0 rfl) ?_
        refine q_get hx hb hts hiX6 hown hw 0 ma_0 rfl 2 (by decide) (hts (.fieldLink RX6 66 "LaceRanksModel" "saved" "I") (by decide +kernel)) rfl dX6_save_9 ?_
        refine lv_bipush (v := 6) hx hb dX6_save_12 (by decide) ?_
        refine lv_icmp_ne (tgt := 31) hx hb dX6_save_14 (by decide) (fun hc => ?_) (fun hc => ?_)
        · have hf := iteF hf hc
          exact B31 M H locs ls hf hw (lv_sub hl [0] rfl)
        · have hf := iteT hf hc
          refine lv_aload_n hx hb dX6_save_17 rfl (lv_at hl 0 rfl) ?_
          refine lv_iload_n hx hb dX6_save_18 rfl (lv_at hl 1 rfl) ?_
          refine lv_iconst (v := 1) hx hb dX6_save_19 (by decide) ?_
          refine lv_iadd hx hb dX6_save_20 ?_
          refine lv_iload_n hx hb dX6_save_21 rfl (lv_at hl 1 rfl) ?_
          obtain ⟨M1, hr1, hf⟩ := bndS hf
          refine q_callV (rest := []) (st1 := []) [.int (x1 + 1), .int x1] ⟨hx, hb, hml, hown, hts⟩ (c_X6_copies hr1) (cwV 2 hts gX6_save_X6_copies rfl rfl rfl (by decide +kernel) ⟨Nat.le_of_ble_eq_true rfl, Nat.le_of_ble_eq_true rfl⟩) hw ma_0 rfl rfl hl.1 rfl (Nat.le_of_ble_eq_true rfl) dX6_save_22 ⟨Nat.zero_le _, Nat.zero_le _⟩ rfl (fun H locs hw => ?_)
          obtain ⟨v2, hv2, hf⟩ := nmE hf
          refine lv_iinc (v := v2) (lv' := [(1, .int v2), (0, .ref (ad 0))]) hx hb dX6_save_25 hl (k := 1) rfl (by rw [hv2]; rfl) (by decide) rfl (fun ls hl => ?_)
          refine lv_goto (tgt := 2) hx hb dX6_save_28 (by decide) ?_
          exact ih2 M1 v2 H locs ls hf hw (lv_sub hl [1, 0] rfl)
  refine lv_iconst (v := 1) hx hb dX6_save_0 (by decide) ?_
  refine lv_istore_n (lv' := [(1, .int 1), (0, .ref (ad 0))]) hx hb dX6_save_1 rfl hl (by decide) rfl (fun ls hl => ?_)
  exact L2 fuelN M 1 H locs ls hf hw (lv_sub hl [1, 0] rfl)

def f_X6_come_l85    : Nat → MS → Int32 → Int32 → Int32 → Int32 → Int32 → Option (Int32 × MS)
  | 0, _, _, _, _, _, _ => none
  | n85 + 1, M, x1, x2, x3, x5, x6 => (if 7 ≤ x6 then bnd (f_X6_lay M x5 0 x1) (fun M1 => bnd (f_X6_lay M1 x5 1 x3) (fun M2 => bnd (f_X6_lay M2 x5 3 x2) (fun M3 => bnd (f_X6_lay M3 x5 4 x5) (fun M4 => gd (inb 1 952) (nm (M4.1 0 (1 : Int32).toNatClampNeg) (fun v5 => gd (inb 1 952) (nm (upM M4 0 (upd (M4.1 0) (1 : Int32).toNatClampNeg (v5 + 1))) (fun M6 => gd (inb 4 952) (nm (M6.1 0 (4 : Int32).toNatClampNeg) (fun v7 => gd (inb 4 952) (nm (upM M6 0 (upd (M6.1 0) (4 : Int32).toNatClampNeg (v7 + x3))) (fun M8 => gd (inb 5 952) (nm (M8.1 0 (5 : Int32).toNatClampNeg) (fun v9 => gd (inb 5 952) (nm (upM M8 0 (upd (M8.1 0) (5 : Int32).toNatClampNeg (v9 + x2))) (fun M10 => some (x5, M10))))))))))))))))) else bnd (f_X6_lay M x5 x6 0) (fun M11 => nm (x6 + 1) (fun v12 => (f_X6_come_l85 n85) M11 x1 x2 x3 x5 v12)))
def f_X6_come_b62    (M : MS) (x1 : Int32) (x2 : Int32) (x3 : Int32) (y0 : Int32) : Option (Int32 × MS) := bnd2 (f_X6_holds M y0) (fun r1 M2 => (if r1 = 0 then some (0, M2) else bnd (f_X6_save M2) (fun M3 => gd (inb 1 952) (nm (M3.1 0 (1 : Int32).toNatClampNeg) (fun v4 => f_X6_come_l85 fuelN M3 x1 x2 x3 v4 0)))))
def f_X6_come_b34    (M : MS) (x1 : Int32) (x2 : Int32) (x3 : Int32) (y0 : Int32) : Option (Int32 × MS) := (if y0 = 0 then f_X6_come_b62 M x1 x2 x3 1 else gd (inb 1 952) (nm (M.1 0 (1 : Int32).toNatClampNeg) (fun v1 => (if v1 = 10 then f_X6_come_b62 M x1 x2 x3 2 else f_X6_come_b62 M x1 x2 x3 0))))
def f_X6_come_b33    (M : MS) (x1 : Int32) (x2 : Int32) (x3 : Int32) : Option (Int32 × MS) := f_X6_come_b34 M x1 x2 x3 0
def f_X6_come (M : MS)  (a1 : Int32) (a2 : Int32) (a3 : Int32) : Option (Int32 × MS) := bnd (f_X6_in a1 0 4) (fun r1 => (if r1 = 0 then f_X6_come_b33 M a1 a2 a3 else bnd (f_X6_in a2 0 40) (fun r2 => (if r2 = 0 then f_X6_come_b33 M a1 a2 a3 else bnd (f_X6_in a3 0 99) (fun r3 => (if r3 = 0 then f_X6_come_b33 M a1 a2 a3 else f_X6_come_b34 M a1 a2 a3 1))))))
set_option maxHeartbeats 4000000 in
set_option maxRecDepth 100000 in
theorem c_X6_come {l : Launch} {D : va_G} {cI cR : ClassId} {ad : Nat → Nat} {A : Nat → Prop} {M : MS} {M' : MS} {a1 : Int32} {a2 : Int32} {a3 : Int32} {r : Int32}  (hf : f_X6_come M a1 a2 a3 = some (r, M')) : MC l yX6_come wsX6_come 2 44 D cI cR A [.ref (ad 0), .int a1, .int a2, .int a3] (mws cI ad M) (some (.int r)) (mws cI ad M') := by
  refine Met.ofW (cc := cX6_come) (maxL := 7) (ret := (some .int)) (by decide) rfl ?_
  intro p e s m args below meth c s₁ B hml hv
  obtain ⟨rfl, hw⟩ := q_start hv
  have hx := B.exec
  have hb := B.bytes
  have hr := B.returns
  have hts := atoms_spec (ws := wsX6_come) B.pre
  have hown : s.vm.findClass RX6 = some m.cls := findClass_of_methodNamed B.named
  have hlocks := B.notSynchronized
  have hiX6 : ∀ w ∈ wsX60, w ∈ wsX6_come := by decide +kernel
  have hl := lv_entry ([.ref (ad 0), .int a1, .int a2, .int a3]) (n := 7) (Nat.le_of_ble_eq_true rfl)
  rw [lg_entry_eq]
  generalize (lg_sl ([.ref (ad 0), .int a1, .int a2, .int a3]) ++ List.replicate (7 - (lg_sl ([.ref (ad 0), .int a1, .int a2, .int a3])).length) Slot.unset).toArray = ls at hl ⊢
  have hl : lv_has ls 7 [(0, .ref (ad 0)), (1, .int a1), (2, .int a2), (3, .int a3)] := hl
  unfold f_X6_come at hf
  obtain ⟨H, eH⟩ : ∃ H, H = s.heap := ⟨_, rfl⟩
  obtain ⟨locs, eL⟩ : ∃ L : List Loc, L = [] := ⟨_, rfl⟩
  rw [← eH, ← eL] at hw ⊢
  clear eH eL
  have L85 : ∀ (n85 : Nat) (M : MS) (x1 : Int32) (x2 : Int32) (x3 : Int32) (x5 : Int32) (x6 : Int32) (H : Heap) (locs : List Loc) (ls : Array Slot), f_X6_come_l85 n85 M x1 x2 x3 x5 x6 = some (r, M') → WH D cI cR A (mws cI ad M) s H locs → lv_has ls 7 [(0, .ref (ad 0)), (1, .int x1), (2, .int x2), (3, .int x3), (5, .int x5), (6, .int x6)] → W p l e (headSpec wsX6_come ({ frames := 2, cells := 0, slots := 0, locals := 44 })).room s m ([.ref (ad 0), .int a1, .int a2, .int a3] : List Value).toArray below meth c H locs 0 0 (MQ below (QV (some (.int r)) D A (mws cI ad M')) (([.ref (ad 0), .int a1, .int a2, .int a3] : List Value)).toArray s 0 0 A) (F0 m 85 ls []) := by
    intro n85
    induction n85 with
    | zero => intro M x1 x2 x3 x5 x6 H locs ls hf; cases hf
    | succ n85 ih =>
      have ih85 := ih
      intro M x1 x2 x3 x5 x6 H locs ls hf hw hl
      simp only [f_X6_come_l85] at hf
      refine lv_iload hx hb dX6_come_85 (lv_at hl 5 rfl) ?_
      refine lv_bipush (v := 7) hx hb dX6_come_87 (by decide) ?_
      refine lv_icmp_ge (tgt := 107) hx hb dX6_come_89 (by decide) (fun hc => ?_) (fun hc => ?_)
      · have hf := iteT hf hc
        refine lv_aload_n hx hb dX6_come_107 rfl (lv_at hl 0 rfl) ?_
        refine lv_iload hx hb dX6_come_108 (lv_at hl 4 rfl) ?_
        refine lv_iconst (v := 0) hx hb dX6_come_110 (by decide) ?_
        refine lv_iload_n hx hb dX6_come_111 rfl (lv_at hl 1 rfl) ?_
        obtain ⟨M1, hr1, hf⟩ := bndS hf
        refine q_callV (rest := []) (st1 := []) [.int x5, .int 0, .int x1] ⟨hx, hb, hml, hown, hts⟩ (c_X6_lay hr1) (cwV 3 hts gX6_come_X6_lay rfl rfl rfl (by decide +kernel) ⟨Nat.le_of_ble_eq_true rfl, Nat.le_of_ble_eq_true rfl⟩) hw ma_0 rfl rfl hl.1 rfl (Nat.le_of_ble_eq_true rfl) dX6_come_112 ⟨Nat.zero_le _, Nat.zero_le _⟩ rfl (fun H locs hw => ?_)
        refine lv_aload_n hx hb dX6_come_115 rfl (lv_at hl 0 rfl) ?_
        refine lv_iload hx hb dX6_come_116 (lv_at hl 4 rfl) ?_
        refine lv_iconst (v := 1) hx hb dX6_come_118 (by decide) ?_
        refine lv_iload_n hx hb dX6_come_119 rfl (lv_at hl 3 rfl) ?_
        obtain ⟨M2, hr2, hf⟩ := bndS hf
        refine q_callV (rest := []) (st1 := []) [.int x5, .int 1, .int x3] ⟨hx, hb, hml, hown, hts⟩ (c_X6_lay hr2) (cwV 3 hts gX6_come_X6_lay rfl rfl rfl (by decide +kernel) ⟨Nat.le_of_ble_eq_true rfl, Nat.le_of_ble_eq_true rfl⟩) hw ma_0 rfl rfl hl.1 rfl (Nat.le_of_ble_eq_true rfl) dX6_come_120 ⟨Nat.zero_le _, Nat.zero_le _⟩ rfl (fun H locs hw => ?_)
        refine lv_aload_n hx hb dX6_come_123 rfl (lv_at hl 0 rfl) ?_
        refine lv_iload hx hb dX6_come_124 (lv_at hl 4 rfl) ?_
        refine lv_iconst (v := 3) hx hb dX6_come_126 (by decide) ?_
        refine lv_iload_n hx hb dX6_come_127 rfl (lv_at hl 2 rfl) ?_
        obtain ⟨M3, hr3, hf⟩ := bndS hf
        refine q_callV (rest := []) (st1 := []) [.int x5, .int 3, .int x2] ⟨hx, hb, hml, hown, hts⟩ (c_X6_lay hr3) (cwV 3 hts gX6_come_X6_lay rfl rfl rfl (by decide +kernel) ⟨Nat.le_of_ble_eq_true rfl, Nat.le_of_ble_eq_true rfl⟩) hw ma_0 rfl rfl hl.1 rfl (Nat.le_of_ble_eq_true rfl) dX6_come_128 ⟨Nat.zero_le _, Nat.zero_le _⟩ rfl (fun H locs hw => ?_)
        refine lv_aload_n hx hb dX6_come_131 rfl (lv_at hl 0 rfl) ?_
        refine lv_iload hx hb dX6_come_132 (lv_at hl 4 rfl) ?_
        refine lv_iconst (v := 4) hx hb dX6_come_134 (by decide) ?_
        refine lv_iload hx hb dX6_come_135 (lv_at hl 4 rfl) ?_
        obtain ⟨M4, hr4, hf⟩ := bndS hf
        refine q_callV (rest := []) (st1 := []) [.int x5, .int 4, .int x5] ⟨hx, hb, hml, hown, hts⟩ (c_X6_lay hr4) (cwV 3 hts gX6_come_X6_lay rfl rfl rfl (by decide +kernel) ⟨Nat.le_of_ble_eq_true rfl, Nat.le_of_ble_eq_true rfl⟩) hw ma_0 rfl rfl hl.1 rfl (Nat.le_of_ble_eq_true rfl) dX6_come_137 ⟨Nat.zero_le _, Nat.zero_le _⟩ rfl (fun H locs hw => ?_)
        refine lv_aload_n hx hb dX6_come_140 rfl (lv_at hl 0 rfl) ?_
        refine q_get hx hb hts hiX6 hown hw 0 ma_0 rfl 1 (by decide) (hts (.fieldLink RX6 7 "LaceRanksModel" "s" "[I") (by decide +kernel)) rfl dX6_come_141 ?_
        refine lv_iconst (v := 1) hx hb dX6_come_144 (by decide) ?_
        refine lv_dup2_11 hx hb dX6_come_145 rfl rfl ?_
        obtain ⟨hg, hf⟩ := gdE hf
        obtain ⟨v5, hv5, hf⟩ := nmE hf
        refine q_iald hx hb hw 1 ma_1 (inb_in hg) dX6_come_146 ?_
        refine q_is hv5 ?_
        refine lv_iconst (v := 1) hx hb dX6_come_147 (by decide) ?_
        refine lv_iadd hx hb dX6_come_148 ?_
        obtain ⟨hg, hf⟩ := gdE hf
        obtain ⟨M6, hM6, hf⟩ := nmE hf
        refine q_iast hx hb hw 1 ma_1 (inb_in hg) dX6_come_149 (ms_1.trans (congrArg (fun z => (mws cI ad z)) hM6.symm)) (fun H locs hw => ?_)
        refine lv_aload_n hx hb dX6_come_150 rfl (lv_at hl 0 rfl) ?_
        refine q_get hx hb hts hiX6 hown hw 0 ma_0 rfl 1 (by decide) (hts (.fieldLink RX6 7 "LaceRanksModel" "s" "[I") (by decide +kernel)) rfl dX6_come_151 ?_
        refine lv_iconst (v := 4) hx hb dX6_come_154 (by decide) ?_
        refine lv_dup2_11 hx hb dX6_come_155 rfl rfl ?_
        obtain ⟨hg, hf⟩ := gdE hf
        obtain ⟨v7, hv7, hf⟩ := nmE hf
        refine q_iald hx hb hw 1 ma_1 (inb_in hg) dX6_come_156 ?_
        refine q_is hv7 ?_
        refine lv_iload_n hx hb dX6_come_157 rfl (lv_at hl 3 rfl) ?_
        refine lv_iadd hx hb dX6_come_158 ?_
        obtain ⟨hg, hf⟩ := gdE hf
        obtain ⟨M8, hM8, hf⟩ := nmE hf
        refine q_iast hx hb hw 1 ma_1 (inb_in hg) dX6_come_159 (ms_1.trans (congrArg (fun z => (mws cI ad z)) hM8.symm)) (fun H locs hw => ?_)
        refine lv_aload_n hx hb dX6_come_160 rfl (lv_at hl 0 rfl) ?_
        refine q_get hx hb hts hiX6 hown hw 0 ma_0 rfl 1 (by decide) (hts (.fieldLink RX6 7 "LaceRanksModel" "s" "[I") (by decide +kernel)) rfl dX6_come_161 ?_
        refine lv_iconst (v := 5) hx hb dX6_come_164 (by decide) ?_
        refine lv_dup2_11 hx hb dX6_come_165 rfl rfl ?_
        obtain ⟨hg, hf⟩ := gdE hf
        obtain ⟨v9, hv9, hf⟩ := nmE hf
        refine q_iald hx hb hw 1 ma_1 (inb_in hg) dX6_come_166 ?_
        refine q_is hv9 ?_
        refine lv_iload_n hx hb dX6_come_167 rfl (lv_at hl 2 rfl) ?_
        refine lv_iadd hx hb dX6_come_168 ?_
        obtain ⟨hg, hf⟩ := gdE hf
        obtain ⟨M10, hM10, hf⟩ := nmE hf
        refine q_iast hx hb hw 1 ma_1 (inb_in hg) dX6_come_169 (ms_1.trans (congrArg (fun z => (mws cI ad z)) hM10.symm)) (fun H locs hw => ?_)
        refine lv_iload hx hb dX6_come_170 (lv_at hl 4 rfl) ?_
        cases hf
        exact q_iret hx hb hr hlocks hw dX6_come_172
      · have hf := iteF hf hc
        refine lv_aload_n hx hb dX6_come_92 rfl (lv_at hl 0 rfl) ?_
        refine lv_iload hx hb dX6_come_93 (lv_at hl 4 rfl) ?_
        refine lv_iload hx hb dX6_come_95 (lv_at hl 5 rfl) ?_
        refine lv_iconst (v := 0) hx hb dX6_come_97 (by decide) ?_
        obtain ⟨M11, hr11, hf⟩ := bndS hf
        refine q_callV (rest := []) (st1 := []) [.int x5, .int x6, .int 0] ⟨hx, hb, hml, hown, hts⟩ (c_X6_lay hr11) (cwV 3 hts gX6_come_X6_lay rfl rfl rfl (by decide +kernel) ⟨Nat.le_of_ble_eq_true rfl, Nat.le_of_ble_eq_true rfl⟩) hw ma_0 rfl rfl hl.1 rfl (Nat.le_of_ble_eq_true rfl) dX6_come_98 ⟨Nat.zero_le _, Nat.zero_le _⟩ rfl (fun H locs hw => ?_)
        obtain ⟨v12, hv12, hf⟩ := nmE hf
        refine lv_iinc (v := v12) (lv' := [(6, .int v12), (0, .ref (ad 0)), (1, .int x1), (2, .int x2), (3, .int x3), (5, .int x5)]) hx hb dX6_come_101 hl (k := 5) rfl (by rw [hv12]; rfl) (by decide) rfl (fun ls hl => ?_)
        refine lv_goto (tgt := 85) hx hb dX6_come_104 (by decide) ?_
        exact ih85 M11 x1 x2 x3 x5 v12 H locs ls hf hw (lv_sub hl [1, 2, 3, 4, 5, 0] rfl)
  have B62 : ∀ (M : MS) (x1 : Int32) (x2 : Int32) (x3 : Int32) (y0 : Int32) (H : Heap) (locs : List Loc) (ls : Array Slot), f_X6_come_b62 M x1 x2 x3 y0 = some (r, M') → WH D cI cR A (mws cI ad M) s H locs → lv_has ls 7 [(0, .ref (ad 0)), (1, .int x1), (2, .int x2), (3, .int x3)] → W p l e (headSpec wsX6_come ({ frames := 2, cells := 0, slots := 0, locals := 44 })).room s m ([.ref (ad 0), .int a1, .int a2, .int a3] : List Value).toArray below meth c H locs 0 0 (MQ below (QV (some (.int r)) D A (mws cI ad M')) (([.ref (ad 0), .int a1, .int a2, .int a3] : List Value)).toArray s 0 0 A) (F0 m 62 ls [.int y0, .ref (ad 0)]) := by
    intro M x1 x2 x3 y0 H locs ls hf hw hl
    unfold f_X6_come_b62 at hf
    obtain ⟨r1, M2, hr2, hf⟩ := bnd2S hf
    refine q_callV (rest := []) (st1 := [.int r1]) [.int y0] ⟨hx, hb, hml, hown, hts⟩ (c_X6_holds hr2) (cwV 1 hts gX6_come_X6_holds rfl rfl rfl (by decide +kernel) ⟨Nat.le_of_ble_eq_true rfl, Nat.le_of_ble_eq_true rfl⟩) hw ma_0 rfl rfl hl.1 rfl (Nat.le_of_ble_eq_true rfl) dX6_come_62 ⟨Nat.zero_le _, Nat.zero_le _⟩ rfl (fun H locs hw => ?_)
    refine lv_if_ne (tgt := 70) hx hb dX6_come_65 (by decide) (fun hc => ?_) (fun hc => ?_)
    · have hf := iteF hf hc
      refine lv_aload_n hx hb dX6_come_70 rfl (lv_at hl 0 rfl) ?_
      obtain ⟨M3, hr3, hf⟩ := bndS hf
      refine q_callV (rest := []) (st1 := []) [] ⟨hx, hb, hml, hown, hts⟩ (c_X6_save hr3) (cwV 0 hts gX6_come_X6_save rfl rfl rfl (by decide +kernel) ⟨Nat.le_of_ble_eq_true rfl, Nat.le_of_ble_eq_true rfl⟩) hw ma_0 rfl rfl hl.1 rfl (Nat.le_of_ble_eq_true rfl) dX6_come_71 ⟨Nat.zero_le _, Nat.zero_le _⟩ rfl (fun H locs hw => ?_)
      refine lv_aload_n hx hb dX6_come_74 rfl (lv_at hl 0 rfl) ?_
      refine q_get hx hb hts hiX6 hown hw 0 ma_0 rfl 1 (by decide) (hts (.fieldLink RX6 7 "LaceRanksModel" "s" "[I") (by decide +kernel)) rfl dX6_come_75 ?_
      refine lv_iconst (v := 1) hx hb dX6_come_78 (by decide) ?_
      obtain ⟨hg, hf⟩ := gdE hf
      obtain ⟨v4, hv4, hf⟩ := nmE hf
      refine q_iald hx hb hw 1 ma_1 (inb_in hg) dX6_come_79 ?_
      refine q_is hv4 ?_
      refine lv_istore (lv' := [(5, .int v4), (0, .ref (ad 0)), (1, .int x1), (2, .int x2), (3, .int x3)]) hx hb dX6_come_80 hl (by decide) rfl (fun ls hl => ?_)
      refine lv_iconst (v := 0) hx hb dX6_come_82 (by decide) ?_
      refine lv_istore (lv' := [(6, .int 0), (5, .int v4), (0, .ref (ad 0)), (1, .int x1), (2, .int x2), (3, .int x3)]) hx hb dX6_come_83 hl (by decide) rfl (fun ls hl => ?_)
      exact L85 fuelN M3 x1 x2 x3 v4 0 H locs ls hf hw (lv_sub hl [2, 3, 4, 5, 1, 0] rfl)
    · have hf := iteT hf hc
      refine lv_iconst (v := 0) hx hb dX6_come_68 (by decide) ?_
      cases hf
      exact q_iret hx hb hr hlocks hw dX6_come_69
  have B34 : ∀ (M : MS) (x1 : Int32) (x2 : Int32) (x3 : Int32) (y0 : Int32) (H : Heap) (locs : List Loc) (ls : Array Slot), f_X6_come_b34 M x1 x2 x3 y0 = some (r, M') → WH D cI cR A (mws cI ad M) s H locs → lv_has ls 7 [(0, .ref (ad 0)), (1, .int x1), (2, .int x2), (3, .int x3)] → W p l e (headSpec wsX6_come ({ frames := 2, cells := 0, slots := 0, locals := 44 })).room s m ([.ref (ad 0), .int a1, .int a2, .int a3] : List Value).toArray below meth c H locs 0 0 (MQ below (QV (some (.int r)) D A (mws cI ad M')) (([.ref (ad 0), .int a1, .int a2, .int a3] : List Value)).toArray s 0 0 A) (F0 m 34 ls [.int y0]) := by
    intro M x1 x2 x3 y0 H locs ls hf hw hl
    unfold f_X6_come_b34 at hf
    refine lv_istore (lv' := [(4, .int y0), (0, .ref (ad 0)), (1, .int x1), (2, .int x2), (3, .int x3)]) hx hb dX6_come_34 hl (by decide) rfl (fun ls hl => ?_)
    refine lv_aload_n hx hb dX6_come_36 rfl (lv_at hl 1 rfl) ?_
    refine lv_iload hx hb dX6_come_37 (lv_at hl 0 rfl) ?_
    refine lv_if_ne (tgt := 46) hx hb dX6_come_39 (by decide) (fun hc => ?_) (fun hc => ?_)
    · have hf := iteF hf hc
      refine lv_aload_n hx hb dX6_come_46 rfl (lv_at hl 1 rfl) ?_
      refine q_get hx hb hts hiX6 hown hw 0 ma_0 rfl 1 (by decide) (hts (.fieldLink RX6 7 "LaceRanksModel" "s" "[I") (by decide +kernel)) rfl dX6_come_47 ?_
      refine lv_iconst (v := 1) hx hb dX6_come_50 (by decide) ?_
      obtain ⟨hg, hf⟩ := gdE hf
      obtain ⟨v1, hv1, hf⟩ := nmE hf
      refine q_iald hx hb hw 1 ma_1 (inb_in hg) dX6_come_51 ?_
      refine q_is hv1 ?_
      refine lv_bipush (v := 10) hx hb dX6_come_52 (by decide) ?_
      refine lv_icmp_ne (tgt := 61) hx hb dX6_come_54 (by decide) (fun hc => ?_) (fun hc => ?_)
      · have hf := iteF hf hc
        refine lv_iconst (v := 0) hx hb dX6_come_61 (by decide) ?_
        exact B62 M x1 x2 x3 0 H locs ls hf hw (lv_sub hl [1, 2, 3, 4] rfl)
      · have hf := iteT hf hc
        refine lv_iconst (v := 2) hx hb dX6_come_57 (by decide) ?_
        refine lv_goto (tgt := 62) hx hb dX6_come_58 (by decide) ?_
        exact B62 M x1 x2 x3 2 H locs ls hf hw (lv_sub hl [1, 2, 3, 4] rfl)
    · have hf := iteT hf hc
      refine lv_iconst (v := 1) hx hb dX6_come_42 (by decide) ?_
      refine lv_goto (tgt := 62) hx hb dX6_come_43 (by decide) ?_
      exact B62 M x1 x2 x3 1 H locs ls hf hw (lv_sub hl [1, 2, 3, 4] rfl)
  have B33 : ∀ (M : MS) (x1 : Int32) (x2 : Int32) (x3 : Int32) (H : Heap) (locs : List Loc) (ls : Array Slot), f_X6_come_b33 M x1 x2 x3 = some (r, M') → WH D cI cR A (mws cI ad M) s H locs → lv_has ls 7 [(0, .ref (ad 0)), (1, .int x1), (2, .int x2), (3, .int x3)] → W p l e (headSpec wsX6_come ({ frames := 2, cells := 0, slots := 0, locals := 44 })).room s m ([.ref (ad 0), .int a1, .int a2, .int a3] : List Value).toArray below meth c H locs 0 0 (MQ below (QV (some (.int r)) D A (mws cI ad M')) (([.ref (ad 0), .int a1, .int a2, .int a3] : List Value)).toArray s 0 0 A) (F0 m 33 ls []) := by
    intro M x1 x2 x3 H locs ls hf hw hl
    unfold f_X6_come_b33 at hf
    refine lv_iconst (v := 0) hx hb dX6_come_33 (by decide) ?_
    exact B34 M x1 x2 x3 0 H locs ls hf hw (lv_sub hl [0, 1, 2, 3] rfl)
  refine lv_iload_n hx hb dX6_come_0 rfl (lv_at hl 1 rfl) ?_
  refine lv_iconst (v := 0) hx hb dX6_come_1 (by decide) ?_
  refine lv_iconst (v := 4) hx hb dX6_come_2 (by decide) ?_
  obtain ⟨r1, hr1, hf⟩ := bndS hf
  refine q_callS (rest := []) (st1 := [.int r1]) [.int a1, .int 0, .int 4] ⟨hx, hb, hml, hown, hts⟩ (c_X6_in hr1) (va_cwS 3 hts gX6_come_X6_in rfl rfl rfl (by decide +kernel) ⟨Nat.le_of_ble_eq_true rfl, Nat.le_of_ble_eq_true rfl⟩) hw rfl hl.1 rfl (Nat.le_of_ble_eq_true rfl) dX6_come_3 ⟨Nat.zero_le _, Nat.zero_le _⟩ rfl (fun H locs hw => ?_)
  refine lv_if_eq (tgt := 33) hx hb dX6_come_6 (by decide) (fun hc => ?_) (fun hc => ?_)
  · have hf := iteT hf hc
    exact B33 M a1 a2 a3 H locs ls hf hw (lv_sub hl [0, 1, 2, 3] rfl)
  · have hf := iteF hf hc
    refine lv_iload_n hx hb dX6_come_9 rfl (lv_at hl 2 rfl) ?_
    refine lv_iconst (v := 0) hx hb dX6_come_10 (by decide) ?_
    refine lv_bipush (v := 40) hx hb dX6_come_11 (by decide) ?_
    obtain ⟨r2, hr2, hf⟩ := bndS hf
    refine q_callS (rest := []) (st1 := [.int r2]) [.int a2, .int 0, .int 40] ⟨hx, hb, hml, hown, hts⟩ (c_X6_in hr2) (va_cwS 3 hts gX6_come_X6_in rfl rfl rfl (by decide +kernel) ⟨Nat.le_of_ble_eq_true rfl, Nat.le_of_ble_eq_true rfl⟩) hw rfl hl.1 rfl (Nat.le_of_ble_eq_true rfl) dX6_come_13 ⟨Nat.zero_le _, Nat.zero_le _⟩ rfl (fun H locs hw => ?_)
    refine lv_if_eq (tgt := 33) hx hb dX6_come_16 (by decide) (fun hc => ?_) (fun hc => ?_)
    · have hf := iteT hf hc
      exact B33 M a1 a2 a3 H locs ls hf hw (lv_sub hl [0, 1, 2, 3] rfl)
    · have hf := iteF hf hc
      refine lv_iload_n hx hb dX6_come_19 rfl (lv_at hl 3 rfl) ?_
      refine lv_iconst (v := 0) hx hb dX6_come_20 (by decide) ?_
      refine lv_bipush (v := 99) hx hb dX6_come_21 (by decide) ?_
      obtain ⟨r3, hr3, hf⟩ := bndS hf
      refine q_callS (rest := []) (st1 := [.int r3]) [.int a3, .int 0, .int 99] ⟨hx, hb, hml, hown, hts⟩ (c_X6_in hr3) (va_cwS 3 hts gX6_come_X6_in rfl rfl rfl (by decide +kernel) ⟨Nat.le_of_ble_eq_true rfl, Nat.le_of_ble_eq_true rfl⟩) hw rfl hl.1 rfl (Nat.le_of_ble_eq_true rfl) dX6_come_23 ⟨Nat.zero_le _, Nat.zero_le _⟩ rfl (fun H locs hw => ?_)
      refine lv_if_eq (tgt := 33) hx hb dX6_come_26 (by decide) (fun hc => ?_) (fun hc => ?_)
      · have hf := iteT hf hc
        exact B33 M a1 a2 a3 H locs ls hf hw (lv_sub hl [0, 1, 2, 3] rfl)
      · have hf := iteF hf hc
        refine lv_iconst (v := 1) hx hb dX6_come_29 (by decide) ?_
        refine lv_goto (tgt := 34) hx hb dX6_come_30 (by decide) ?_
        exact B34 M a1 a2 a3 1 H locs ls hf hw (lv_sub hl [0, 1, 2, 3] rfl)

def f_X6_leave_b298 (k241 : MS → Int32 → Int32 → Int32 → Option (Int32 × MS))   (M : MS) (x1 : Int32) (x4 : Int32) (x5 : Int32) (y0 : Int32) (y1 : Int32) (y2 : Int32) : Option (Int32 × MS) := gd (inb y2 952) (nm (upM M 0 (upd (M.1 0) y2.toNatClampNeg (y1 - y0))) (fun M1 => nm (x5 + 1) (fun v2 => k241 M1 x1 x4 v2)))
def f_X6_leave_b275 (k241 : MS → Int32 → Int32 → Int32 → Option (Int32 × MS))   (M : MS) (x1 : Int32) (x4 : Int32) (x5 : Int32) (y0 : Int32) : Option (Int32 × MS) := gd (inb (86 + x5) 952) (nm (M.1 0 (86 + x5).toNatClampNeg) (fun v1 => (if y0 = 0 then f_X6_leave_b298 k241 M x1 x4 x5 0 v1 (86 + x5) else f_X6_leave_b298 k241 M x1 x4 x5 1 v1 (86 + x5))))
def f_X6_leave_b274 (k241 : MS → Int32 → Int32 → Int32 → Option (Int32 × MS))   (M : MS) (x1 : Int32) (x4 : Int32) (x5 : Int32) : Option (Int32 × MS) := f_X6_leave_b275 k241 M x1 x4 x5 0
def f_X6_leave_l241    : Nat → MS → Int32 → Int32 → Int32 → Option (Int32 × MS)
  | 0, _, _, _, _ => none
  | n241 + 1, M, x1, x4, x5 => (if 33 ≤ x5 then some (x4, M) else (if (x5 - x5 / 11 * 11) ≤ 0 then f_X6_leave_b274 (f_X6_leave_l241 n241) M x1 x4 x5 else gd (inb (86 + x5) 952) (nm (M.1 0 (86 + x5).toNatClampNeg) (fun v1 => (if v1 ≤ x1 then f_X6_leave_b274 (f_X6_leave_l241 n241) M x1 x4 x5 else f_X6_leave_b275 (f_X6_leave_l241 n241) M x1 x4 x5 1)))))
def f_X6_leave_b229 (k184 : MS → Int32 → Int32 → Int32 → Option (Int32 × MS))   (M : MS) (x1 : Int32) (x4 : Int32) (x5 : Int32) (y0 : Int32) (y1 : Int32) (y2 : Int32) : Option (Int32 × MS) := bnd (f_X6_lay M y2 y1 y0) (fun M1 => nm (x5 + 1) (fun v2 => k184 M1 x1 x4 v2))
def f_X6_leave_l184    : Nat → MS → Int32 → Int32 → Int32 → Option (Int32 × MS)
  | 0, _, _, _, _ => none
  | n184 + 1, M, x1, x4, x5 => gd (inb 1 952) (nm (M.1 0 (1 : Int32).toNatClampNeg) (fun v1 => (if v1 ≤ x5 then f_X6_leave_l241 fuelN M x1 x4 0 else bnd (f_X6_of M x5 4) (fun r2 => (if r2 ≤ x1 then bnd (f_X6_of M x5 4) (fun r3 => f_X6_leave_b229 (f_X6_leave_l184 n184) M x1 x4 x5 r3 4 x5) else bnd (f_X6_of M x5 4) (fun r4 => f_X6_leave_b229 (f_X6_leave_l184 n184) M x1 x4 x5 (r4 - 1) 4 x5))))))
def f_X6_leave_l138    : Nat → MS → Int32 → Int32 → Int32 → Option (Int32 × MS)
  | 0, _, _, _, _ => none
  | n138 + 1, M, x1, x4, x5 => gd (inb 1 952) (nm (M.1 0 (1 : Int32).toNatClampNeg) (fun v1 => (if (7 * v1) ≤ x5 then f_X6_leave_l184 fuelN M x1 x4 0 else gd (inb ((16 + x5) + 7) 952) (nm (M.1 0 ((16 + x5) + 7).toNatClampNeg) (fun v2 => gd (inb (16 + x5) 952) (nm (upM M 0 (upd (M.1 0) (16 + x5).toNatClampNeg v2)) (fun M3 => nm (x5 + 1) (fun v4 => (f_X6_leave_l138 n138) M3 x1 x4 v4))))))))
def f_X6_leave_b72    (M : MS) (x1 : Int32) (y0 : Int32) : Option (Int32 × MS) := bnd2 (f_X6_holds M y0) (fun r1 M2 => (if r1 = 0 then some (0, M2) else bnd (f_X6_save M2) (fun M3 => bnd (f_X6_of M3 x1 2) (fun r4 => gd (inb 4 952) (nm (M3.1 0 (4 : Int32).toNatClampNeg) (fun v5 => bnd (f_X6_of M3 x1 1) (fun r6 => gd (inb 4 952) (nm (upM M3 0 (upd (M3.1 0) (4 : Int32).toNatClampNeg (v5 - r6))) (fun M7 => gd (inb 5 952) (nm (M7.1 0 (5 : Int32).toNatClampNeg) (fun v8 => bnd (f_X6_of M7 x1 3) (fun r9 => gd (inb 5 952) (nm (upM M7 0 (upd (M7.1 0) (5 : Int32).toNatClampNeg (v8 - r9))) (fun M10 => gd (inb 1 952) (nm (M10.1 0 (1 : Int32).toNatClampNeg) (fun v11 => gd (inb 1 952) (nm (upM M10 0 (upd (M10.1 0) (1 : Int32).toNatClampNeg (v11 - 1))) (fun M12 => f_X6_leave_l138 fuelN M12 x1 r4 (7 * x1)))))))))))))))))))
def f_X6_leave_b53    (M : MS) (x1 : Int32) (x2 : Int32) (y0 : Int32) : Option (Int32 × MS) := (if x2 = 0 then f_X6_leave_b72 M x1 1 else (if y0 = 0 then f_X6_leave_b72 M x1 2 else f_X6_leave_b72 M x1 0))
def f_X6_leave_b52    (M : MS) (x1 : Int32) (x2 : Int32) : Option (Int32 × MS) := f_X6_leave_b53 M x1 x2 0
def f_X6_leave (M : MS)  (a1 : Int32) : Option (Int32 × MS) := bnd (f_X6_isGuest M a1) (fun r1 => (if r1 = 0 then f_X6_leave_b52 M a1 r1 else bnd (f_X6_of M a1 4) (fun r2 => (if r2 = a1 then bnd (f_X6_lentTo M a1) (fun r3 => (if r3 = (-1) then bnd (f_X6_of M a1 6) (fun r4 => (if r4 = 0 then bnd (f_X6_standing M a1) (fun r5 => (if r5 = (-1) then f_X6_leave_b53 M a1 r1 1 else f_X6_leave_b52 M a1 r1)) else f_X6_leave_b52 M a1 r1)) else f_X6_leave_b52 M a1 r1)) else f_X6_leave_b52 M a1 r1))))
set_option maxHeartbeats 4000000 in
set_option maxRecDepth 100000 in
theorem c_X6_leave {l : Launch} {D : va_G} {cI cR : ClassId} {ad : Nat → Nat} {A : Nat → Prop} {M : MS} {M' : MS} {a1 : Int32} {r : Int32}  (hf : f_X6_leave M a1 = some (r, M')) : MC l yX6_leave wsX6_leave 2 45 D cI cR A [.ref (ad 0), .int a1] (mws cI ad M) (some (.int r)) (mws cI ad M') := by
  refine Met.ofW (cc := cX6_leave) (maxL := 7) (ret := (some .int)) (by decide) rfl ?_
  intro p e s m args below meth c s₁ B hml hv
  obtain ⟨rfl, hw⟩ := q_start hv
  have hx := B.exec
  have hb := B.bytes
  have hr := B.returns
  have hts := atoms_spec (ws := wsX6_leave) B.pre
  have hown : s.vm.findClass RX6 = some m.cls := findClass_of_methodNamed B.named
  have hlocks := B.notSynchronized
  have hiX6 : ∀ w ∈ wsX60, w ∈ wsX6_leave := by decide +kernel
  have hl := lv_entry ([.ref (ad 0), .int a1]) (n := 7) (Nat.le_of_ble_eq_true rfl)
  rw [lg_entry_eq]
  generalize (lg_sl ([.ref (ad 0), .int a1]) ++ List.replicate (7 - (lg_sl ([.ref (ad 0), .int a1])).length) Slot.unset).toArray = ls at hl ⊢
  have hl : lv_has ls 7 [(0, .ref (ad 0)), (1, .int a1)] := hl
  unfold f_X6_leave at hf
  obtain ⟨H, eH⟩ : ∃ H, H = s.heap := ⟨_, rfl⟩
  obtain ⟨locs, eL⟩ : ∃ L : List Loc, L = [] := ⟨_, rfl⟩
  rw [← eH, ← eL] at hw ⊢
  clear eH eL
  have L241 : ∀ (n241 : Nat) (M : MS) (x1 : Int32) (x4 : Int32) (x5 : Int32) (H : Heap) (locs : List Loc) (ls : Array Slot), f_X6_leave_l241 n241 M x1 x4 x5 = some (r, M') → WH D cI cR A (mws cI ad M) s H locs → lv_has ls 7 [(0, .ref (ad 0)), (1, .int x1), (4, .int x4), (5, .int x5)] → W p l e (headSpec wsX6_leave ({ frames := 2, cells := 0, slots := 0, locals := 45 })).room s m ([.ref (ad 0), .int a1] : List Value).toArray below meth c H locs 0 0 (MQ below (QV (some (.int r)) D A (mws cI ad M')) (([.ref (ad 0), .int a1] : List Value)).toArray s 0 0 A) (F0 m 241 ls []) := by
    intro n241
    induction n241 with
    | zero => intro M x1 x4 x5 H locs ls hf; cases hf
    | succ n241 ih =>
      have ih241 := ih
      have B298 : ∀ (M : MS) (x1 : Int32) (x4 : Int32) (x5 : Int32) (y0 : Int32) (y1 : Int32) (y2 : Int32) (H : Heap) (locs : List Loc) (ls : Array Slot), f_X6_leave_b298 (f_X6_leave_l241 n241) M x1 x4 x5 y0 y1 y2 = some (r, M') → WH D cI cR A (mws cI ad M) s H locs → lv_has ls 7 [(0, .ref (ad 0)), (1, .int x1), (4, .int x4), (5, .int x5)] → W p l e (headSpec wsX6_leave ({ frames := 2, cells := 0, slots := 0, locals := 45 })).room s m ([.ref (ad 0), .int a1] : List Value).toArray below meth c H locs 0 0 (MQ below (QV (some (.int r)) D A (mws cI ad M')) (([.ref (ad 0), .int a1] : List Value)).toArray s 0 0 A) (F0 m 298 ls [.int y0, .int y1, .int y2, .ref (ad 1)]) := by
        intro M x1 x4 x5 y0 y1 y2 H locs ls hf hw hl
        unfold f_X6_leave_b298 at hf
        refine lv_isub hx hb dX6_leave_298 ?_
        obtain ⟨hg, hf⟩ := gdE hf
        obtain ⟨M1, hM1, hf⟩ := nmE hf
        refine q_iast hx hb hw 1 ma_1 (inb_in hg) dX6_leave_299 (ms_1.trans (congrArg (fun z => (mws cI ad z)) hM1.symm)) (fun H locs hw => ?_)
        obtain ⟨v2, hv2, hf⟩ := nmE hf
        refine lv_iinc (v := v2) (lv' := [(5, .int v2), (0, .ref (ad 0)), (1, .int x1), (4, .int x4)]) hx hb dX6_leave_300 hl (k := 3) rfl (by rw [hv2]; rfl) (by decide) rfl (fun ls hl => ?_)
        refine lv_goto (tgt := 241) hx hb dX6_leave_303 (by decide) ?_
        exact ih241 M1 x1 x4 v2 H locs ls hf hw (lv_sub hl [1, 2, 3, 0] rfl)
      have B275 : ∀ (M : MS) (x1 : Int32) (x4 : Int32) (x5 : Int32) (y0 : Int32) (H : Heap) (locs : List Loc) (ls : Array Slot), f_X6_leave_b275 (f_X6_leave_l241 n241) M x1 x4 x5 y0 = some (r, M') → WH D cI cR A (mws cI ad M) s H locs → lv_has ls 7 [(0, .ref (ad 0)), (1, .int x1), (4, .int x4), (5, .int x5)] → W p l e (headSpec wsX6_leave ({ frames := 2, cells := 0, slots := 0, locals := 45 })).room s m ([.ref (ad 0), .int a1] : List Value).toArray below meth c H locs 0 0 (MQ below (QV (some (.int r)) D A (mws cI ad M')) (([.ref (ad 0), .int a1] : List Value)).toArray s 0 0 A) (F0 m 275 ls [.int y0]) := by
        intro M x1 x4 x5 y0 H locs ls hf hw hl
        unfold f_X6_leave_b275 at hf
        refine lv_istore (lv' := [(6, .int y0), (0, .ref (ad 0)), (1, .int x1), (4, .int x4), (5, .int x5)]) hx hb dX6_leave_275 hl (by decide) rfl (fun ls hl => ?_)
        refine lv_aload_n hx hb dX6_leave_277 rfl (lv_at hl 1 rfl) ?_
        refine q_get hx hb hts hiX6 hown hw 0 ma_0 rfl 1 (by decide) (hts (.fieldLink RX6 7 "LaceRanksModel" "s" "[I") (by decide +kernel)) rfl dX6_leave_278 ?_
        refine lv_bipush (v := 86) hx hb dX6_leave_281 (by decide) ?_
        refine lv_iload hx hb dX6_leave_283 (lv_at hl 4 rfl) ?_
        refine lv_iadd hx hb dX6_leave_285 ?_
        refine lv_dup2_11 hx hb dX6_leave_286 rfl rfl ?_
        obtain ⟨hg, hf⟩ := gdE hf
        obtain ⟨v1, hv1, hf⟩ := nmE hf
        refine q_iald hx hb hw 1 ma_1 (inb_in hg) dX6_leave_287 ?_
        refine q_is hv1 ?_
        refine lv_iload hx hb dX6_leave_288 (lv_at hl 0 rfl) ?_
        refine lv_if_eq (tgt := 297) hx hb dX6_leave_290 (by decide) (fun hc => ?_) (fun hc => ?_)
        · have hf := iteT hf hc
          refine lv_iconst (v := 0) hx hb dX6_leave_297 (by decide) ?_
          exact B298 M x1 x4 x5 0 v1 (86 + x5) H locs ls hf hw (lv_sub hl [1, 2, 3, 4] rfl)
        · have hf := iteF hf hc
          refine lv_iconst (v := 1) hx hb dX6_leave_293 (by decide) ?_
          refine lv_goto (tgt := 298) hx hb dX6_leave_294 (by decide) ?_
          exact B298 M x1 x4 x5 1 v1 (86 + x5) H locs ls hf hw (lv_sub hl [1, 2, 3, 4] rfl)
      have B274 : ∀ (M : MS) (x1 : Int32) (x4 : Int32) (x5 : Int32) (H : Heap) (locs : List Loc) (ls : Array Slot), f_X6_leave_b274 (f_X6_leave_l241 n241) M x1 x4 x5 = some (r, M') → WH D cI cR A (mws cI ad M) s H locs → lv_has ls 7 [(0, .ref (ad 0)), (1, .int x1), (4, .int x4), (5, .int x5)] → W p l e (headSpec wsX6_leave ({ frames := 2, cells := 0, slots := 0, locals := 45 })).room s m ([.ref (ad 0), .int a1] : List Value).toArray below meth c H locs 0 0 (MQ below (QV (some (.int r)) D A (mws cI ad M')) (([.ref (ad 0), .int a1] : List Value)).toArray s 0 0 A) (F0 m 274 ls []) := by
        intro M x1 x4 x5 H locs ls hf hw hl
        unfold f_X6_leave_b274 at hf
        refine lv_iconst (v := 0) hx hb dX6_leave_274 (by decide) ?_
        exact B275 M x1 x4 x5 0 H locs ls hf hw (lv_sub hl [0, 1, 2, 3] rfl)
      intro M x1 x4 x5 H locs ls hf hw hl
      simp only [f_X6_leave_l241] at hf
      refine lv_iload hx hb dX6_leave_241 (lv_at hl 3 rfl) ?_
      refine lv_bipush (v := 33) hx hb dX6_leave_243 (by decide) ?_
      refine lv_icmp_ge (tgt := 306) hx hb dX6_leave_245 (by decide) (fun hc => ?_) (fun hc => ?_)
      · have hf := iteT hf hc
        refine lv_iload hx hb dX6_leave_306 (lv_at hl 2 rfl) ?_
        cases hf
        exact q_iret hx hb hr hlocks hw dX6_leave_308
      · have hf := iteF hf hc
        refine lv_iload hx hb dX6_leave_248 (lv_at hl 3 rfl) ?_
        refine lv_bipush (v := 11) hx hb dX6_leave_250 (by decide) ?_
        refine lv_irem hx hb dX6_leave_252 (by decide) ?_
        refine lv_if_le (tgt := 274) hx hb dX6_leave_253 (by decide) (fun hc => ?_) (fun hc => ?_)
        · have hf := iteT hf hc
          exact B274 M x1 x4 x5 H locs ls hf hw (lv_sub hl [0, 1, 2, 3] rfl)
        · have hf := iteF hf hc
          refine lv_aload_n hx hb dX6_leave_256 rfl (lv_at hl 0 rfl) ?_
          refine q_get hx hb hts hiX6 hown hw 0 ma_0 rfl 1 (by decide) (hts (.fieldLink RX6 7 "LaceRanksModel" "s" "[I") (by decide +kernel)) rfl dX6_leave_257 ?_
          refine lv_bipush (v := 86) hx hb dX6_leave_260 (by decide) ?_
          refine lv_iload hx hb dX6_leave_262 (lv_at hl 3 rfl) ?_
          refine lv_iadd hx hb dX6_leave_264 ?_
          obtain ⟨hg, hf⟩ := gdE hf
          obtain ⟨v1, hv1, hf⟩ := nmE hf
          refine q_iald hx hb hw 1 ma_1 (inb_in hg) dX6_leave_265 ?_
          refine q_is hv1 ?_
          refine lv_iload_n hx hb dX6_leave_266 rfl (lv_at hl 1 rfl) ?_
          refine lv_icmp_le (tgt := 274) hx hb dX6_leave_267 (by decide) (fun hc => ?_) (fun hc => ?_)
          · have hf := iteT hf hc
            exact B274 M x1 x4 x5 H locs ls hf hw (lv_sub hl [0, 1, 2, 3] rfl)
          · have hf := iteF hf hc
            refine lv_iconst (v := 1) hx hb dX6_leave_270 (by decide) ?_
            refine lv_goto (tgt := 275) hx hb dX6_leave_271 (by decide) ?_
            exact B275 M x1 x4 x5 1 H locs ls hf hw (lv_sub hl [0, 1, 2, 3] rfl)
  have L184 : ∀ (n184 : Nat) (M : MS) (x1 : Int32) (x4 : Int32) (x5 : Int32) (H : Heap) (locs : List Loc) (ls : Array Slot), f_X6_leave_l184 n184 M x1 x4 x5 = some (r, M') → WH D cI cR A (mws cI ad M) s H locs → lv_has ls 7 [(0, .ref (ad 0)), (1, .int x1), (4, .int x4), (5, .int x5)] → W p l e (headSpec wsX6_leave ({ frames := 2, cells := 0, slots := 0, locals := 45 })).room s m ([.ref (ad 0), .int a1] : List Value).toArray below meth c H locs 0 0 (MQ below (QV (some (.int r)) D A (mws cI ad M')) (([.ref (ad 0), .int a1] : List Value)).toArray s 0 0 A) (F0 m 184 ls []) := by
    intro n184
    induction n184 with
    | zero => intro M x1 x4 x5 H locs ls hf; cases hf
    | succ n184 ih =>
      have ih184 := ih
      have B229 : ∀ (M : MS) (x1 : Int32) (x4 : Int32) (x5 : Int32) (y0 : Int32) (y1 : Int32) (y2 : Int32) (H : Heap) (locs : List Loc) (ls : Array Slot), f_X6_leave_b229 (f_X6_leave_l184 n184) M x1 x4 x5 y0 y1 y2 = some (r, M') → WH D cI cR A (mws cI ad M) s H locs → lv_has ls 7 [(0, .ref (ad 0)), (1, .int x1), (4, .int x4), (5, .int x5)] → W p l e (headSpec wsX6_leave ({ frames := 2, cells := 0, slots := 0, locals := 45 })).room s m ([.ref (ad 0), .int a1] : List Value).toArray below meth c H locs 0 0 (MQ below (QV (some (.int r)) D A (mws cI ad M')) (([.ref (ad 0), .int a1] : List Value)).toArray s 0 0 A) (F0 m 229 ls [.int y0, .int y1, .int y2, .ref (ad 0)]) := by
        intro M x1 x4 x5 y0 y1 y2 H locs ls hf hw hl
        unfold f_X6_leave_b229 at hf
        obtain ⟨M1, hr1, hf⟩ := bndS hf
        refine q_callV (rest := []) (st1 := []) [.int y2, .int y1, .int y0] ⟨hx, hb, hml, hown, hts⟩ (c_X6_lay hr1) (cwV 3 hts gX6_leave_X6_lay rfl rfl rfl (by decide +kernel) ⟨Nat.le_of_ble_eq_true rfl, Nat.le_of_ble_eq_true rfl⟩) hw ma_0 rfl rfl hl.1 rfl (Nat.le_of_ble_eq_true rfl) dX6_leave_229 ⟨Nat.zero_le _, Nat.zero_le _⟩ rfl (fun H locs hw => ?_)
        obtain ⟨v2, hv2, hf⟩ := nmE hf
        refine lv_iinc (v := v2) (lv' := [(5, .int v2), (0, .ref (ad 0)), (1, .int x1), (4, .int x4)]) hx hb dX6_leave_232 hl (k := 3) rfl (by rw [hv2]; rfl) (by decide) rfl (fun ls hl => ?_)
        refine lv_goto (tgt := 184) hx hb dX6_leave_235 (by decide) ?_
        exact ih184 M1 x1 x4 v2 H locs ls hf hw (lv_sub hl [1, 2, 3, 0] rfl)
      intro M x1 x4 x5 H locs ls hf hw hl
      simp only [f_X6_leave_l184] at hf
      refine lv_iload hx hb dX6_leave_184 (lv_at hl 3 rfl) ?_
      refine lv_aload_n hx hb dX6_leave_186 rfl (lv_at hl 0 rfl) ?_
      refine q_get hx hb hts hiX6 hown hw 0 ma_0 rfl 1 (by decide) (hts (.fieldLink RX6 7 "LaceRanksModel" "s" "[I") (by decide +kernel)) rfl dX6_leave_187 ?_
      refine lv_iconst (v := 1) hx hb dX6_leave_190 (by decide) ?_
      obtain ⟨hg, hf⟩ := gdE hf
      obtain ⟨v1, hv1, hf⟩ := nmE hf
      refine q_iald hx hb hw 1 ma_1 (inb_in hg) dX6_leave_191 ?_
      refine q_is hv1 ?_
      refine lv_icmp_ge (tgt := 238) hx hb dX6_leave_192 (by decide) (fun hc => ?_) (fun hc => ?_)
      · have hf := iteT hf hc
        refine lv_iconst (v := 0) hx hb dX6_leave_238 (by decide) ?_
        refine lv_istore (lv' := [(5, .int 0), (0, .ref (ad 0)), (1, .int x1), (4, .int x4)]) hx hb dX6_leave_239 hl (by decide) rfl (fun ls hl => ?_)
        exact L241 fuelN M x1 x4 0 H locs ls hf hw (lv_sub hl [1, 2, 3, 0] rfl)
      · have hf := iteF hf hc
        refine lv_aload_n hx hb dX6_leave_195 rfl (lv_at hl 0 rfl) ?_
        refine lv_iload hx hb dX6_leave_196 (lv_at hl 3 rfl) ?_
        refine lv_iconst (v := 4) hx hb dX6_leave_198 (by decide) ?_
        refine lv_aload_n hx hb dX6_leave_199 rfl (lv_at hl 0 rfl) ?_
        refine lv_iload hx hb dX6_leave_200 (lv_at hl 3 rfl) ?_
        refine lv_iconst (v := 4) hx hb dX6_leave_202 (by decide) ?_
        obtain ⟨r2, hr2, hf⟩ := bndS hf
        refine q_callV (rest := [.int 4, .int x5, .ref (ad 0)]) (st1 := [.int r2, .int 4, .int x5, .ref (ad 0)]) [.int x5, .int 4] ⟨hx, hb, hml, hown, hts⟩ (c_X6_of hr2) (cwV 2 hts gX6_leave_X6_of rfl rfl rfl (by decide +kernel) ⟨Nat.le_of_ble_eq_true rfl, Nat.le_of_ble_eq_true rfl⟩) hw ma_0 rfl rfl hl.1 rfl (Nat.le_of_ble_eq_true rfl) dX6_leave_203 ⟨Nat.zero_le _, Nat.zero_le _⟩ rfl (fun H locs hw => ?_)
        refine lv_iload_n hx hb dX6_leave_206 rfl (lv_at hl 1 rfl) ?_
        refine lv_icmp_le (tgt := 222) hx hb dX6_leave_207 (by decide) (fun hc => ?_) (fun hc => ?_)
        · have hf := iteT hf hc
          refine lv_aload_n hx hb dX6_leave_222 rfl (lv_at hl 0 rfl) ?_
          refine lv_iload hx hb dX6_leave_223 (lv_at hl 3 rfl) ?_
          refine lv_iconst (v := 4) hx hb dX6_leave_225 (by decide) ?_
          obtain ⟨r3, hr3, hf⟩ := bndS hf
          refine q_callV (rest := [.int 4, .int x5, .ref (ad 0)]) (st1 := [.int r3, .int 4, .int x5, .ref (ad 0)]) [.int x5, .int 4] ⟨hx, hb, hml, hown, hts⟩ (c_X6_of hr3) (cwV 2 hts gX6_leave_X6_of rfl rfl rfl (by decide +kernel) ⟨Nat.le_of_ble_eq_true rfl, Nat.le_of_ble_eq_true rfl⟩) hw ma_0 rfl rfl hl.1 rfl (Nat.le_of_ble_eq_true rfl) dX6_leave_226 ⟨Nat.zero_le _, Nat.zero_le _⟩ rfl (fun H locs hw => ?_)
          exact B229 M x1 x4 x5 r3 4 x5 H locs ls hf hw (lv_sub hl [0, 1, 2, 3] rfl)
        · have hf := iteF hf hc
          refine lv_aload_n hx hb dX6_leave_210 rfl (lv_at hl 0 rfl) ?_
          refine lv_iload hx hb dX6_leave_211 (lv_at hl 3 rfl) ?_
          refine lv_iconst (v := 4) hx hb dX6_leave_213 (by decide) ?_
          obtain ⟨r4, hr4, hf⟩ := bndS hf
          refine q_callV (rest := [.int 4, .int x5, .ref (ad 0)]) (st1 := [.int r4, .int 4, .int x5, .ref (ad 0)]) [.int x5, .int 4] ⟨hx, hb, hml, hown, hts⟩ (c_X6_of hr4) (cwV 2 hts gX6_leave_X6_of rfl rfl rfl (by decide +kernel) ⟨Nat.le_of_ble_eq_true rfl, Nat.le_of_ble_eq_true rfl⟩) hw ma_0 rfl rfl hl.1 rfl (Nat.le_of_ble_eq_true rfl) dX6_leave_214 ⟨Nat.zero_le _, Nat.zero_le _⟩ rfl (fun H locs hw => ?_)
          refine lv_iconst (v := 1) hx hb dX6_leave_217 (by decide) ?_
          refine lv_isub hx hb dX6_leave_218 ?_
          refine lv_goto (tgt := 229) hx hb dX6_leave_219 (by decide) ?_
          exact B229 M x1 x4 x5 (r4 - 1) 4 x5 H locs ls hf hw (lv_sub hl [0, 1, 2, 3] rfl)
  have L138 : ∀ (n138 : Nat) (M : MS) (x1 : Int32) (x4 : Int32) (x5 : Int32) (H : Heap) (locs : List Loc) (ls : Array Slot), f_X6_leave_l138 n138 M x1 x4 x5 = some (r, M') → WH D cI cR A (mws cI ad M) s H locs → lv_has ls 7 [(0, .ref (ad 0)), (1, .int x1), (4, .int x4), (5, .int x5)] → W p l e (headSpec wsX6_leave ({ frames := 2, cells := 0, slots := 0, locals := 45 })).room s m ([.ref (ad 0), .int a1] : List Value).toArray below meth c H locs 0 0 (MQ below (QV (some (.int r)) D A (mws cI ad M')) (([.ref (ad 0), .int a1] : List Value)).toArray s 0 0 A) (F0 m 138 ls []) := by
    intro n138
    induction n138 with
    | zero => intro M x1 x4 x5 H locs ls hf; cases hf
    | succ n138 ih =>
      have ih138 := ih
      intro M x1 x4 x5 H locs ls hf hw hl
      simp only [f_X6_leave_l138] at hf
      refine lv_iload hx hb dX6_leave_138 (lv_at hl 3 rfl) ?_
      refine lv_bipush (v := 7) hx hb dX6_leave_140 (by decide) ?_
      refine lv_aload_n hx hb dX6_leave_142 rfl (lv_at hl 0 rfl) ?_
      refine q_get hx hb hts hiX6 hown hw 0 ma_0 rfl 1 (by decide) (hts (.fieldLink RX6 7 "LaceRanksModel" "s" "[I") (by decide +kernel)) rfl dX6_leave_143 ?_
      refine lv_iconst (v := 1) hx hb dX6_leave_146 (by decide) ?_
      obtain ⟨hg, hf⟩ := gdE hf
      obtain ⟨v1, hv1, hf⟩ := nmE hf
      refine q_iald hx hb hw 1 ma_1 (inb_in hg) dX6_leave_147 ?_
      refine q_is hv1 ?_
      refine lv_imul hx hb dX6_leave_148 ?_
      refine lv_icmp_ge (tgt := 181) hx hb dX6_leave_149 (by decide) (fun hc => ?_) (fun hc => ?_)
      · have hf := iteT hf hc
        refine lv_iconst (v := 0) hx hb dX6_leave_181 (by decide) ?_
        refine lv_istore (lv' := [(5, .int 0), (0, .ref (ad 0)), (1, .int x1), (4, .int x4)]) hx hb dX6_leave_182 hl (by decide) rfl (fun ls hl => ?_)
        exact L184 fuelN M x1 x4 0 H locs ls hf hw (lv_sub hl [1, 2, 3, 0] rfl)
      · have hf := iteF hf hc
        refine lv_aload_n hx hb dX6_leave_152 rfl (lv_at hl 0 rfl) ?_
        refine q_get hx hb hts hiX6 hown hw 0 ma_0 rfl 1 (by decide) (hts (.fieldLink RX6 7 "LaceRanksModel" "s" "[I") (by decide +kernel)) rfl dX6_leave_153 ?_
        refine lv_bipush (v := 16) hx hb dX6_leave_156 (by decide) ?_
        refine lv_iload hx hb dX6_leave_158 (lv_at hl 3 rfl) ?_
        refine lv_iadd hx hb dX6_leave_160 ?_
        refine lv_aload_n hx hb dX6_leave_161 rfl (lv_at hl 0 rfl) ?_
        refine q_get hx hb hts hiX6 hown hw 0 ma_0 rfl 1 (by decide) (hts (.fieldLink RX6 7 "LaceRanksModel" "s" "[I") (by decide +kernel)) rfl dX6_leave_162 ?_
        refine lv_bipush (v := 16) hx hb dX6_leave_165 (by decide) ?_
        refine lv_iload hx hb dX6_leave_167 (lv_at hl 3 rfl) ?_
        refine lv_iadd hx hb dX6_leave_169 ?_
        refine lv_bipush (v := 7) hx hb dX6_leave_170 (by decide) ?_
        refine lv_iadd hx hb dX6_leave_172 ?_
        obtain ⟨hg, hf⟩ := gdE hf
        obtain ⟨v2, hv2, hf⟩ := nmE hf
        refine q_iald hx hb hw 1 ma_1 (inb_in hg) dX6_leave_173 ?_
        refine q_is hv2 ?_
        obtain ⟨hg, hf⟩ := gdE hf
        obtain ⟨M3, hM3, hf⟩ := nmE hf
        refine q_iast hx hb hw 1 ma_1 (inb_in hg) dX6_leave_174 (ms_1.trans (congrArg (fun z => (mws cI ad z)) hM3.symm)) (fun H locs hw => ?_)
        obtain ⟨v4, hv4, hf⟩ := nmE hf
        refine lv_iinc (v := v4) (lv' := [(5, .int v4), (0, .ref (ad 0)), (1, .int x1), (4, .int x4)]) hx hb dX6_leave_175 hl (k := 3) rfl (by rw [hv4]; rfl) (by decide) rfl (fun ls hl => ?_)
        refine lv_goto (tgt := 138) hx hb dX6_leave_178 (by decide) ?_
        exact ih138 M3 x1 x4 v4 H locs ls hf hw (lv_sub hl [1, 2, 3, 0] rfl)
  have B72 : ∀ (M : MS) (x1 : Int32) (y0 : Int32) (H : Heap) (locs : List Loc) (ls : Array Slot), f_X6_leave_b72 M x1 y0 = some (r, M') → WH D cI cR A (mws cI ad M) s H locs → lv_has ls 7 [(0, .ref (ad 0)), (1, .int x1)] → W p l e (headSpec wsX6_leave ({ frames := 2, cells := 0, slots := 0, locals := 45 })).room s m ([.ref (ad 0), .int a1] : List Value).toArray below meth c H locs 0 0 (MQ below (QV (some (.int r)) D A (mws cI ad M')) (([.ref (ad 0), .int a1] : List Value)).toArray s 0 0 A) (F0 m 72 ls [.int y0, .ref (ad 0)]) := by
    intro M x1 y0 H locs ls hf hw hl
    unfold f_X6_leave_b72 at hf
    obtain ⟨r1, M2, hr2, hf⟩ := bnd2S hf
    refine q_callV (rest := []) (st1 := [.int r1]) [.int y0] ⟨hx, hb, hml, hown, hts⟩ (c_X6_holds hr2) (cwV 1 hts gX6_leave_X6_holds rfl rfl rfl (by decide +kernel) ⟨Nat.le_of_ble_eq_true rfl, Nat.le_of_ble_eq_true rfl⟩) hw ma_0 rfl rfl hl.1 rfl (Nat.le_of_ble_eq_true rfl) dX6_leave_72 ⟨Nat.zero_le _, Nat.zero_le _⟩ rfl (fun H locs hw => ?_)
    refine lv_if_ne (tgt := 80) hx hb dX6_leave_75 (by decide) (fun hc => ?_) (fun hc => ?_)
    · have hf := iteF hf hc
      refine lv_aload_n hx hb dX6_leave_80 rfl (lv_at hl 0 rfl) ?_
      obtain ⟨M3, hr3, hf⟩ := bndS hf
      refine q_callV (rest := []) (st1 := []) [] ⟨hx, hb, hml, hown, hts⟩ (c_X6_save hr3) (cwV 0 hts gX6_leave_X6_save rfl rfl rfl (by decide +kernel) ⟨Nat.le_of_ble_eq_true rfl, Nat.le_of_ble_eq_true rfl⟩) hw ma_0 rfl rfl hl.1 rfl (Nat.le_of_ble_eq_true rfl) dX6_leave_81 ⟨Nat.zero_le _, Nat.zero_le _⟩ rfl (fun H locs hw => ?_)
      refine lv_aload_n hx hb dX6_leave_84 rfl (lv_at hl 0 rfl) ?_
      refine lv_iload_n hx hb dX6_leave_85 rfl (lv_at hl 1 rfl) ?_
      refine lv_iconst (v := 2) hx hb dX6_leave_86 (by decide) ?_
      obtain ⟨r4, hr4, hf⟩ := bndS hf
      refine q_callV (rest := []) (st1 := [.int r4]) [.int x1, .int 2] ⟨hx, hb, hml, hown, hts⟩ (c_X6_of hr4) (cwV 2 hts gX6_leave_X6_of rfl rfl rfl (by decide +kernel) ⟨Nat.le_of_ble_eq_true rfl, Nat.le_of_ble_eq_true rfl⟩) hw ma_0 rfl rfl hl.1 rfl (Nat.le_of_ble_eq_true rfl) dX6_leave_87 ⟨Nat.zero_le _, Nat.zero_le _⟩ rfl (fun H locs hw => ?_)
      refine lv_istore (lv' := [(4, .int r4), (0, .ref (ad 0)), (1, .int x1)]) hx hb dX6_leave_90 hl (by decide) rfl (fun ls hl => ?_)
      refine lv_aload_n hx hb dX6_leave_92 rfl (lv_at hl 1 rfl) ?_
      refine q_get hx hb hts hiX6 hown hw 0 ma_0 rfl 1 (by decide) (hts (.fieldLink RX6 7 "LaceRanksModel" "s" "[I") (by decide +kernel)) rfl dX6_leave_93 ?_
      refine lv_iconst (v := 4) hx hb dX6_leave_96 (by decide) ?_
      refine lv_dup2_11 hx hb dX6_leave_97 rfl rfl ?_
      obtain ⟨hg, hf⟩ := gdE hf
      obtain ⟨v5, hv5, hf⟩ := nmE hf
      refine q_iald hx hb hw 1 ma_1 (inb_in hg) dX6_leave_98 ?_
      refine q_is hv5 ?_
      refine lv_aload_n hx hb dX6_leave_99 rfl (lv_at hl 1 rfl) ?_
      refine lv_iload_n hx hb dX6_leave_100 rfl (lv_at hl 2 rfl) ?_
      refine lv_iconst (v := 1) hx hb dX6_leave_101 (by decide) ?_
      obtain ⟨r6, hr6, hf⟩ := bndS hf
      refine q_callV (rest := [.int v5, .int 4, .ref (ad 1)]) (st1 := [.int r6, .int v5, .int 4, .ref (ad 1)]) [.int x1, .int 1] ⟨hx, hb, hml, hown, hts⟩ (c_X6_of hr6) (cwV 2 hts gX6_leave_X6_of rfl rfl rfl (by decide +kernel) ⟨Nat.le_of_ble_eq_true rfl, Nat.le_of_ble_eq_true rfl⟩) hw ma_0 rfl rfl hl.1 rfl (Nat.le_of_ble_eq_true rfl) dX6_leave_102 ⟨Nat.zero_le _, Nat.zero_le _⟩ rfl (fun H locs hw => ?_)
      refine lv_isub hx hb dX6_leave_105 ?_
      obtain ⟨hg, hf⟩ := gdE hf
      obtain ⟨M7, hM7, hf⟩ := nmE hf
      refine q_iast hx hb hw 1 ma_1 (inb_in hg) dX6_leave_106 (ms_1.trans (congrArg (fun z => (mws cI ad z)) hM7.symm)) (fun H locs hw => ?_)
      refine lv_aload_n hx hb dX6_leave_107 rfl (lv_at hl 1 rfl) ?_
      refine q_get hx hb hts hiX6 hown hw 0 ma_0 rfl 1 (by decide) (hts (.fieldLink RX6 7 "LaceRanksModel" "s" "[I") (by decide +kernel)) rfl dX6_leave_108 ?_
      refine lv_iconst (v := 5) hx hb dX6_leave_111 (by decide) ?_
      refine lv_dup2_11 hx hb dX6_leave_112 rfl rfl ?_
      obtain ⟨hg, hf⟩ := gdE hf
      obtain ⟨v8, hv8, hf⟩ := nmE hf
      refine q_iald hx hb hw 1 ma_1 (inb_in hg) dX6_leave_113 ?_
      refine q_is hv8 ?_
      refine lv_aload_n hx hb dX6_leave_114 rfl (lv_at hl 1 rfl) ?_
      refine lv_iload_n hx hb dX6_leave_115 rfl (lv_at hl 2 rfl) ?_
      refine lv_iconst (v := 3) hx hb dX6_leave_116 (by decide) ?_
      obtain ⟨r9, hr9, hf⟩ := bndS hf
      refine q_callV (rest := [.int v8, .int 5, .ref (ad 1)]) (st1 := [.int r9, .int v8, .int 5, .ref (ad 1)]) [.int x1, .int 3] ⟨hx, hb, hml, hown, hts⟩ (c_X6_of hr9) (cwV 2 hts gX6_leave_X6_of rfl rfl rfl (by decide +kernel) ⟨Nat.le_of_ble_eq_true rfl, Nat.le_of_ble_eq_true rfl⟩) hw ma_0 rfl rfl hl.1 rfl (Nat.le_of_ble_eq_true rfl) dX6_leave_117 ⟨Nat.zero_le _, Nat.zero_le _⟩ rfl (fun H locs hw => ?_)
      refine lv_isub hx hb dX6_leave_120 ?_
      obtain ⟨hg, hf⟩ := gdE hf
      obtain ⟨M10, hM10, hf⟩ := nmE hf
      refine q_iast hx hb hw 1 ma_1 (inb_in hg) dX6_leave_121 (ms_1.trans (congrArg (fun z => (mws cI ad z)) hM10.symm)) (fun H locs hw => ?_)
      refine lv_aload_n hx hb dX6_leave_122 rfl (lv_at hl 1 rfl) ?_
      refine q_get hx hb hts hiX6 hown hw 0 ma_0 rfl 1 (by decide) (hts (.fieldLink RX6 7 "LaceRanksModel" "s" "[I") (by decide +kernel)) rfl dX6_leave_123 ?_
      refine lv_iconst (v := 1) hx hb dX6_leave_126 (by decide) ?_
      refine lv_dup2_11 hx hb dX6_leave_127 rfl rfl ?_
      obtain ⟨hg, hf⟩ := gdE hf
      obtain ⟨v11, hv11, hf⟩ := nmE hf
      refine q_iald hx hb hw 1 ma_1 (inb_in hg) dX6_leave_128 ?_
      refine q_is hv11 ?_
      refine lv_iconst (v := 1) hx hb dX6_leave_129 (by decide) ?_
      refine lv_isub hx hb dX6_leave_130 ?_
      obtain ⟨hg, hf⟩ := gdE hf
      obtain ⟨M12, hM12, hf⟩ := nmE hf
      refine q_iast hx hb hw 1 ma_1 (inb_in hg) dX6_leave_131 (ms_1.trans (congrArg (fun z => (mws cI ad z)) hM12.symm)) (fun H locs hw => ?_)
      refine lv_bipush (v := 7) hx hb dX6_leave_132 (by decide) ?_
      refine lv_iload_n hx hb dX6_leave_134 rfl (lv_at hl 2 rfl) ?_
      refine lv_imul hx hb dX6_leave_135 ?_
      refine lv_istore (lv' := [(5, .int (7 * x1)), (4, .int r4), (0, .ref (ad 0)), (1, .int x1)]) hx hb dX6_leave_136 hl (by decide) rfl (fun ls hl => ?_)
      exact L138 fuelN M12 x1 r4 (7 * x1) H locs ls hf hw (lv_sub hl [2, 3, 1, 0] rfl)
    · have hf := iteT hf hc
      refine lv_iconst (v := 0) hx hb dX6_leave_78 (by decide) ?_
      cases hf
      exact q_iret hx hb hr hlocks hw dX6_leave_79
  have B53 : ∀ (M : MS) (x1 : Int32) (x2 : Int32) (y0 : Int32) (H : Heap) (locs : List Loc) (ls : Array Slot), f_X6_leave_b53 M x1 x2 y0 = some (r, M') → WH D cI cR A (mws cI ad M) s H locs → lv_has ls 7 [(0, .ref (ad 0)), (1, .int x1), (2, .int x2)] → W p l e (headSpec wsX6_leave ({ frames := 2, cells := 0, slots := 0, locals := 45 })).room s m ([.ref (ad 0), .int a1] : List Value).toArray below meth c H locs 0 0 (MQ below (QV (some (.int r)) D A (mws cI ad M')) (([.ref (ad 0), .int a1] : List Value)).toArray s 0 0 A) (F0 m 53 ls [.int y0]) := by
    intro M x1 x2 y0 H locs ls hf hw hl
    unfold f_X6_leave_b53 at hf
    refine lv_istore_n (lv' := [(3, .int y0), (0, .ref (ad 0)), (1, .int x1), (2, .int x2)]) hx hb dX6_leave_53 rfl hl (by decide) rfl (fun ls hl => ?_)
    refine lv_aload_n hx hb dX6_leave_54 rfl (lv_at hl 1 rfl) ?_
    refine lv_iload_n hx hb dX6_leave_55 rfl (lv_at hl 3 rfl) ?_
    refine lv_if_ne (tgt := 63) hx hb dX6_leave_56 (by decide) (fun hc => ?_) (fun hc => ?_)
    · have hf := iteF hf hc
      refine lv_iload_n hx hb dX6_leave_63 rfl (lv_at hl 0 rfl) ?_
      refine lv_if_ne (tgt := 71) hx hb dX6_leave_64 (by decide) (fun hc => ?_) (fun hc => ?_)
      · have hf := iteF hf hc
        refine lv_iconst (v := 0) hx hb dX6_leave_71 (by decide) ?_
        exact B72 M x1 0 H locs ls hf hw (lv_sub hl [1, 2] rfl)
      · have hf := iteT hf hc
        refine lv_iconst (v := 2) hx hb dX6_leave_67 (by decide) ?_
        refine lv_goto (tgt := 72) hx hb dX6_leave_68 (by decide) ?_
        exact B72 M x1 2 H locs ls hf hw (lv_sub hl [1, 2] rfl)
    · have hf := iteT hf hc
      refine lv_iconst (v := 1) hx hb dX6_leave_59 (by decide) ?_
      refine lv_goto (tgt := 72) hx hb dX6_leave_60 (by decide) ?_
      exact B72 M x1 1 H locs ls hf hw (lv_sub hl [1, 2] rfl)
  have B52 : ∀ (M : MS) (x1 : Int32) (x2 : Int32) (H : Heap) (locs : List Loc) (ls : Array Slot), f_X6_leave_b52 M x1 x2 = some (r, M') → WH D cI cR A (mws cI ad M) s H locs → lv_has ls 7 [(0, .ref (ad 0)), (1, .int x1), (2, .int x2)] → W p l e (headSpec wsX6_leave ({ frames := 2, cells := 0, slots := 0, locals := 45 })).room s m ([.ref (ad 0), .int a1] : List Value).toArray below meth c H locs 0 0 (MQ below (QV (some (.int r)) D A (mws cI ad M')) (([.ref (ad 0), .int a1] : List Value)).toArray s 0 0 A) (F0 m 52 ls []) := by
    intro M x1 x2 H locs ls hf hw hl
    unfold f_X6_leave_b52 at hf
    refine lv_iconst (v := 0) hx hb dX6_leave_52 (by decide) ?_
    exact B53 M x1 x2 0 H locs ls hf hw (lv_sub hl [0, 1, 2] rfl)
  refine lv_aload_n hx hb dX6_leave_0 rfl (lv_at hl 0 rfl) ?_
  refine lv_iload_n hx hb dX6_leave_1 rfl (lv_at hl 1 rfl) ?_
  obtain ⟨r1, hr1, hf⟩ := bndS hf
  refine q_callV (rest := []) (st1 := [.int r1]) [.int a1] ⟨hx, hb, hml, hown, hts⟩ (c_X6_isGuest hr1) (cwV 1 hts gX6_leave_X6_isGuest rfl rfl rfl (by decide +kernel) ⟨Nat.le_of_ble_eq_true rfl, Nat.le_of_ble_eq_true rfl⟩) hw ma_0 rfl rfl hl.1 rfl (Nat.le_of_ble_eq_true rfl) dX6_leave_2 ⟨Nat.zero_le _, Nat.zero_le _⟩ rfl (fun H locs hw => ?_)
  refine lv_istore_n (lv' := [(2, .int r1), (0, .ref (ad 0)), (1, .int a1)]) hx hb dX6_leave_5 rfl hl (by decide) rfl (fun ls hl => ?_)
  refine lv_iload_n hx hb dX6_leave_6 rfl (lv_at hl 0 rfl) ?_
  refine lv_if_eq (tgt := 52) hx hb dX6_leave_7 (by decide) (fun hc => ?_) (fun hc => ?_)
  · have hf := iteT hf hc
    exact B52 M a1 r1 H locs ls hf hw (lv_sub hl [1, 2, 0] rfl)
  · have hf := iteF hf hc
    refine lv_aload_n hx hb dX6_leave_10 rfl (lv_at hl 1 rfl) ?_
    refine lv_iload_n hx hb dX6_leave_11 rfl (lv_at hl 2 rfl) ?_
    refine lv_iconst (v := 4) hx hb dX6_leave_12 (by decide) ?_
    obtain ⟨r2, hr2, hf⟩ := bndS hf
    refine q_callV (rest := []) (st1 := [.int r2]) [.int a1, .int 4] ⟨hx, hb, hml, hown, hts⟩ (c_X6_of hr2) (cwV 2 hts gX6_leave_X6_of rfl rfl rfl (by decide +kernel) ⟨Nat.le_of_ble_eq_true rfl, Nat.le_of_ble_eq_true rfl⟩) hw ma_0 rfl rfl hl.1 rfl (Nat.le_of_ble_eq_true rfl) dX6_leave_13 ⟨Nat.zero_le _, Nat.zero_le _⟩ rfl (fun H locs hw => ?_)
    refine lv_iload_n hx hb dX6_leave_16 rfl (lv_at hl 2 rfl) ?_
    refine lv_icmp_ne (tgt := 52) hx hb dX6_leave_17 (by decide) (fun hc => ?_) (fun hc => ?_)
    · have hf := iteF hf hc
      exact B52 M a1 r1 H locs ls hf hw (lv_sub hl [1, 2, 0] rfl)
    · have hf := iteT hf hc
      refine lv_aload_n hx hb dX6_leave_20 rfl (lv_at hl 1 rfl) ?_
      refine lv_iload_n hx hb dX6_leave_21 rfl (lv_at hl 2 rfl) ?_
      obtain ⟨r3, hr3, hf⟩ := bndS hf
      refine q_callV (rest := []) (st1 := [.int r3]) [.int a1] ⟨hx, hb, hml, hown, hts⟩ (c_X6_lentTo hr3) (cwV 1 hts gX6_leave_X6_lentTo rfl rfl rfl (by decide +kernel) ⟨Nat.le_of_ble_eq_true rfl, Nat.le_of_ble_eq_true rfl⟩) hw ma_0 rfl rfl hl.1 rfl (Nat.le_of_ble_eq_true rfl) dX6_leave_22 ⟨Nat.zero_le _, Nat.zero_le _⟩ rfl (fun H locs hw => ?_)
      refine lv_iconst (v := (-1)) hx hb dX6_leave_25 (by decide) ?_
      refine lv_icmp_ne (tgt := 52) hx hb dX6_leave_26 (by decide) (fun hc => ?_) (fun hc => ?_)
      · have hf := iteF hf hc
        exact B52 M a1 r1 H locs ls hf hw (lv_sub hl [1, 2, 0] rfl)
      · have hf := iteT hf hc
        refine lv_aload_n hx hb dX6_leave_29 rfl (lv_at hl 1 rfl) ?_
        refine lv_iload_n hx hb dX6_leave_30 rfl (lv_at hl 2 rfl) ?_
        refine lv_bipush (v := 6) hx hb dX6_leave_31 (by decide) ?_
        obtain ⟨r4, hr4, hf⟩ := bndS hf
        refine q_callV (rest := []) (st1 := [.int r4]) [.int a1, .int 6] ⟨hx, hb, hml, hown, hts⟩ (c_X6_of hr4) (cwV 2 hts gX6_leave_X6_of rfl rfl rfl (by decide +kernel) ⟨Nat.le_of_ble_eq_true rfl, Nat.le_of_ble_eq_true rfl⟩) hw ma_0 rfl rfl hl.1 rfl (Nat.le_of_ble_eq_true rfl) dX6_leave_33 ⟨Nat.zero_le _, Nat.zero_le _⟩ rfl (fun H locs hw => ?_)
        refine lv_if_ne (tgt := 52) hx hb dX6_leave_36 (by decide) (fun hc => ?_) (fun hc => ?_)
        · have hf := iteF hf hc
          exact B52 M a1 r1 H locs ls hf hw (lv_sub hl [1, 2, 0] rfl)
        · have hf := iteT hf hc
          refine lv_aload_n hx hb dX6_leave_39 rfl (lv_at hl 1 rfl) ?_
          refine lv_iload_n hx hb dX6_leave_40 rfl (lv_at hl 2 rfl) ?_
          obtain ⟨r5, hr5, hf⟩ := bndS hf
          refine q_callV (rest := []) (st1 := [.int r5]) [.int a1] ⟨hx, hb, hml, hown, hts⟩ (c_X6_standing hr5) (cwV 1 hts gX6_leave_X6_standing rfl rfl rfl (by decide +kernel) ⟨Nat.le_of_ble_eq_true rfl, Nat.le_of_ble_eq_true rfl⟩) hw ma_0 rfl rfl hl.1 rfl (Nat.le_of_ble_eq_true rfl) dX6_leave_41 ⟨Nat.zero_le _, Nat.zero_le _⟩ rfl (fun H locs hw => ?_)
          refine lv_iconst (v := (-1)) hx hb dX6_leave_44 (by decide) ?_
          refine lv_icmp_ne (tgt := 52) hx hb dX6_leave_45 (by decide) (fun hc => ?_) (fun hc => ?_)
          · have hf := iteF hf hc
            exact B52 M a1 r1 H locs ls hf hw (lv_sub hl [1, 2, 0] rfl)
          · have hf := iteT hf hc
            refine lv_iconst (v := 1) hx hb dX6_leave_48 (by decide) ?_
            refine lv_goto (tgt := 53) hx hb dX6_leave_49 (by decide) ?_
            exact B53 M a1 r1 1 H locs ls hf hw (lv_sub hl [1, 2, 0] rfl)

def f_X6_earn_b28    (M : MS) (x1 : Int32) (x2 : Int32) (y0 : Int32) : Option (Int32 × MS) := bnd2 (f_X6_holds M y0) (fun r1 M2 => (if r1 = 0 then some (0, M2) else bnd (f_X6_save M2) (fun M3 => bnd (f_X6_of M3 x1 1) (fun r4 => bnd (f_X6_lesser x2 (999 - r4)) (fun r5 => bnd (f_X6_of M3 x1 1) (fun r6 => bnd (f_X6_lay M3 x1 1 (r6 + r5)) (fun M7 => gd (inb 4 952) (nm (M7.1 0 (4 : Int32).toNatClampNeg) (fun v8 => gd (inb 4 952) (nm (upM M7 0 (upd (M7.1 0) (4 : Int32).toNatClampNeg (v8 + r5))) (fun M9 => bnd (f_X6_of M9 x1 1) (fun r10 => some (r10, M9)))))))))))))
def f_X6_earn (M : MS)  (a1 : Int32) (a2 : Int32) : Option (Int32 × MS) := bnd (f_X6_isGuest M a1) (fun r1 => (if r1 = 0 then f_X6_earn_b28 M a1 a2 1 else bnd (f_X6_in a2 1 99) (fun r2 => (if r2 = 0 then f_X6_earn_b28 M a1 a2 2 else f_X6_earn_b28 M a1 a2 0))))
set_option maxHeartbeats 4000000 in
set_option maxRecDepth 100000 in
theorem c_X6_earn {l : Launch} {D : va_G} {cI cR : ClassId} {ad : Nat → Nat} {A : Nat → Prop} {M : MS} {M' : MS} {a1 : Int32} {a2 : Int32} {r : Int32}  (hf : f_X6_earn M a1 a2 = some (r, M')) : MC l yX6_earn wsX6_earn 2 44 D cI cR A [.ref (ad 0), .int a1, .int a2] (mws cI ad M) (some (.int r)) (mws cI ad M') := by
  refine Met.ofW (cc := cX6_earn) (maxL := 4) (ret := (some .int)) (by decide) rfl ?_
  intro p e s m args below meth c s₁ B hml hv
  obtain ⟨rfl, hw⟩ := q_start hv
  have hx := B.exec
  have hb := B.bytes
  have hr := B.returns
  have hts := atoms_spec (ws := wsX6_earn) B.pre
  have hown : s.vm.findClass RX6 = some m.cls := findClass_of_methodNamed B.named
  have hlocks := B.notSynchronized
  have hiX6 : ∀ w ∈ wsX60, w ∈ wsX6_earn := by decide +kernel
  have hl := lv_entry ([.ref (ad 0), .int a1, .int a2]) (n := 4) (Nat.le_of_ble_eq_true rfl)
  rw [lg_entry_eq]
  generalize (lg_sl ([.ref (ad 0), .int a1, .int a2]) ++ List.replicate (4 - (lg_sl ([.ref (ad 0), .int a1, .int a2])).length) Slot.unset).toArray = ls at hl ⊢
  have hl : lv_has ls 4 [(0, .ref (ad 0)), (1, .int a1), (2, .int a2)] := hl
  unfold f_X6_earn at hf
  obtain ⟨H, eH⟩ : ∃ H, H = s.heap := ⟨_, rfl⟩
  obtain ⟨locs, eL⟩ : ∃ L : List Loc, L = [] := ⟨_, rfl⟩
  rw [← eH, ← eL] at hw ⊢
  clear eH eL
  have B28 : ∀ (M : MS) (x1 : Int32) (x2 : Int32) (y0 : Int32) (H : Heap) (locs : List Loc) (ls : Array Slot), f_X6_earn_b28 M x1 x2 y0 = some (r, M') → WH D cI cR A (mws cI ad M) s H locs → lv_has ls 4 [(0, .ref (ad 0)), (1, .int x1), (2, .int x2)] → W p l e (headSpec wsX6_earn ({ frames := 2, cells := 0, slots := 0, locals := 44 })).room s m ([.ref (ad 0), .int a1, .int a2] : List Value).toArray below meth c H locs 0 0 (MQ below (QV (some (.int r)) D A (mws cI ad M')) (([.ref (ad 0), .int a1, .int a2] : List Value)).toArray s 0 0 A) (F0 m 28 ls [.int y0, .ref (ad 0)]) := by
    intro M x1 x2 y0 H locs ls hf hw hl
    unfold f_X6_earn_b28 at hf
    obtain ⟨r1, M2, hr2, hf⟩ := bnd2S hf
    refine q_callV (rest := []) (st1 := [.int r1]) [.int y0] ⟨hx, hb, hml, hown, hts⟩ (c_X6_holds hr2) (cwV 1 hts gX6_earn_X6_holds rfl rfl rfl (by decide +kernel) ⟨Nat.le_of_ble_eq_true rfl, Nat.le_of_ble_eq_true rfl⟩) hw ma_0 rfl rfl hl.1 rfl (Nat.le_of_ble_eq_true rfl) dX6_earn_28 ⟨Nat.zero_le _, Nat.zero_le _⟩ rfl (fun H locs hw => ?_)
    refine lv_if_ne (tgt := 36) hx hb dX6_earn_31 (by decide) (fun hc => ?_) (fun hc => ?_)
    · have hf := iteF hf hc
      refine lv_aload_n hx hb dX6_earn_36 rfl (lv_at hl 0 rfl) ?_
      obtain ⟨M3, hr3, hf⟩ := bndS hf
      refine q_callV (rest := []) (st1 := []) [] ⟨hx, hb, hml, hown, hts⟩ (c_X6_save hr3) (cwV 0 hts gX6_earn_X6_save rfl rfl rfl (by decide +kernel) ⟨Nat.le_of_ble_eq_true rfl, Nat.le_of_ble_eq_true rfl⟩) hw ma_0 rfl rfl hl.1 rfl (Nat.le_of_ble_eq_true rfl) dX6_earn_37 ⟨Nat.zero_le _, Nat.zero_le _⟩ rfl (fun H locs hw => ?_)
      refine lv_iload_n hx hb dX6_earn_40 rfl (lv_at hl 2 rfl) ?_
      refine lv_sipush (v := 999) hx hb dX6_earn_41 (by decide) ?_
      refine lv_aload_n hx hb dX6_earn_44 rfl (lv_at hl 0 rfl) ?_
      refine lv_iload_n hx hb dX6_earn_45 rfl (lv_at hl 1 rfl) ?_
      refine lv_iconst (v := 1) hx hb dX6_earn_46 (by decide) ?_
      obtain ⟨r4, hr4, hf⟩ := bndS hf
      refine q_callV (rest := [.int 999, .int x2]) (st1 := [.int r4, .int 999, .int x2]) [.int x1, .int 1] ⟨hx, hb, hml, hown, hts⟩ (c_X6_of hr4) (cwV 2 hts gX6_earn_X6_of rfl rfl rfl (by decide +kernel) ⟨Nat.le_of_ble_eq_true rfl, Nat.le_of_ble_eq_true rfl⟩) hw ma_0 rfl rfl hl.1 rfl (Nat.le_of_ble_eq_true rfl) dX6_earn_47 ⟨Nat.zero_le _, Nat.zero_le _⟩ rfl (fun H locs hw => ?_)
      refine lv_isub hx hb dX6_earn_50 ?_
      obtain ⟨r5, hr5, hf⟩ := bndS hf
      refine q_callS (rest := []) (st1 := [.int r5]) [.int x2, .int (999 - r4)] ⟨hx, hb, hml, hown, hts⟩ (c_X6_lesser hr5) (va_cwS 2 hts gX6_earn_X6_lesser rfl rfl rfl (by decide +kernel) ⟨Nat.le_of_ble_eq_true rfl, Nat.le_of_ble_eq_true rfl⟩) hw rfl hl.1 rfl (Nat.le_of_ble_eq_true rfl) dX6_earn_51 ⟨Nat.zero_le _, Nat.zero_le _⟩ rfl (fun H locs hw => ?_)
      refine lv_istore_n (lv' := [(3, .int r5), (0, .ref (ad 0)), (1, .int x1), (2, .int x2)]) hx hb dX6_earn_54 rfl hl (by decide) rfl (fun ls hl => ?_)
      refine lv_aload_n hx hb dX6_earn_55 rfl (lv_at hl 1 rfl) ?_
      refine lv_iload_n hx hb dX6_earn_56 rfl (lv_at hl 2 rfl) ?_
      refine lv_iconst (v := 1) hx hb dX6_earn_57 (by decide) ?_
      refine lv_aload_n hx hb dX6_earn_58 rfl (lv_at hl 1 rfl) ?_
      refine lv_iload_n hx hb dX6_earn_59 rfl (lv_at hl 2 rfl) ?_
      refine lv_iconst (v := 1) hx hb dX6_earn_60 (by decide) ?_
      obtain ⟨r6, hr6, hf⟩ := bndS hf
      refine q_callV (rest := [.int 1, .int x1, .ref (ad 0)]) (st1 := [.int r6, .int 1, .int x1, .ref (ad 0)]) [.int x1, .int 1] ⟨hx, hb, hml, hown, hts⟩ (c_X6_of hr6) (cwV 2 hts gX6_earn_X6_of rfl rfl rfl (by decide +kernel) ⟨Nat.le_of_ble_eq_true rfl, Nat.le_of_ble_eq_true rfl⟩) hw ma_0 rfl rfl hl.1 rfl (Nat.le_of_ble_eq_true rfl) dX6_earn_61 ⟨Nat.zero_le _, Nat.zero_le _⟩ rfl (fun H locs hw => ?_)
      refine lv_iload_n hx hb dX6_earn_64 rfl (lv_at hl 0 rfl) ?_
      refine lv_iadd hx hb dX6_earn_65 ?_
      obtain ⟨M7, hr7, hf⟩ := bndS hf
      refine q_callV (rest := []) (st1 := []) [.int x1, .int 1, .int (r6 + r5)] ⟨hx, hb, hml, hown, hts⟩ (c_X6_lay hr7) (cwV 3 hts gX6_earn_X6_lay rfl rfl rfl (by decide +kernel) ⟨Nat.le_of_ble_eq_true rfl, Nat.le_of_ble_eq_true rfl⟩) hw ma_0 rfl rfl hl.1 rfl (Nat.le_of_ble_eq_true rfl) dX6_earn_66 ⟨Nat.zero_le _, Nat.zero_le _⟩ rfl (fun H locs hw => ?_)
      refine lv_aload_n hx hb dX6_earn_69 rfl (lv_at hl 1 rfl) ?_
      refine q_get hx hb hts hiX6 hown hw 0 ma_0 rfl 1 (by decide) (hts (.fieldLink RX6 7 "LaceRanksModel" "s" "[I") (by decide +kernel)) rfl dX6_earn_70 ?_
      refine lv_iconst (v := 4) hx hb dX6_earn_73 (by decide) ?_
      refine lv_dup2_11 hx hb dX6_earn_74 rfl rfl ?_
      obtain ⟨hg, hf⟩ := gdE hf
      obtain ⟨v8, hv8, hf⟩ := nmE hf
      refine q_iald hx hb hw 1 ma_1 (inb_in hg) dX6_earn_75 ?_
      refine q_is hv8 ?_
      refine lv_iload_n hx hb dX6_earn_76 rfl (lv_at hl 0 rfl) ?_
      refine lv_iadd hx hb dX6_earn_77 ?_
      obtain ⟨hg, hf⟩ := gdE hf
      obtain ⟨M9, hM9, hf⟩ := nmE hf
      refine q_iast hx hb hw 1 ma_1 (inb_in hg) dX6_earn_78 (ms_1.trans (congrArg (fun z => (mws cI ad z)) hM9.symm)) (fun H locs hw => ?_)
      refine lv_aload_n hx hb dX6_earn_79 rfl (lv_at hl 1 rfl) ?_
      refine lv_iload_n hx hb dX6_earn_80 rfl (lv_at hl 2 rfl) ?_
      refine lv_iconst (v := 1) hx hb dX6_earn_81 (by decide) ?_
      obtain ⟨r10, hr10, hf⟩ := bndS hf
      refine q_callV (rest := []) (st1 := [.int r10]) [.int x1, .int 1] ⟨hx, hb, hml, hown, hts⟩ (c_X6_of hr10) (cwV 2 hts gX6_earn_X6_of rfl rfl rfl (by decide +kernel) ⟨Nat.le_of_ble_eq_true rfl, Nat.le_of_ble_eq_true rfl⟩) hw ma_0 rfl rfl hl.1 rfl (Nat.le_of_ble_eq_true rfl) dX6_earn_82 ⟨Nat.zero_le _, Nat.zero_le _⟩ rfl (fun H locs hw => ?_)
      cases hf
      exact q_iret hx hb hr hlocks hw dX6_earn_85
    · have hf := iteT hf hc
      refine lv_iconst (v := 0) hx hb dX6_earn_34 (by decide) ?_
      cases hf
      exact q_iret hx hb hr hlocks hw dX6_earn_35
  refine lv_aload_n hx hb dX6_earn_0 rfl (lv_at hl 0 rfl) ?_
  refine lv_aload_n hx hb dX6_earn_1 rfl (lv_at hl 0 rfl) ?_
  refine lv_iload_n hx hb dX6_earn_2 rfl (lv_at hl 1 rfl) ?_
  obtain ⟨r1, hr1, hf⟩ := bndS hf
  refine q_callV (rest := [.ref (ad 0)]) (st1 := [.int r1, .ref (ad 0)]) [.int a1] ⟨hx, hb, hml, hown, hts⟩ (c_X6_isGuest hr1) (cwV 1 hts gX6_earn_X6_isGuest rfl rfl rfl (by decide +kernel) ⟨Nat.le_of_ble_eq_true rfl, Nat.le_of_ble_eq_true rfl⟩) hw ma_0 rfl rfl hl.1 rfl (Nat.le_of_ble_eq_true rfl) dX6_earn_3 ⟨Nat.zero_le _, Nat.zero_le _⟩ rfl (fun H locs hw => ?_)
  refine lv_if_ne (tgt := 13) hx hb dX6_earn_6 (by decide) (fun hc => ?_) (fun hc => ?_)
  · have hf := iteF hf hc
    refine lv_iload_n hx hb dX6_earn_13 rfl (lv_at hl 2 rfl) ?_
    refine lv_iconst (v := 1) hx hb dX6_earn_14 (by decide) ?_
    refine lv_bipush (v := 99) hx hb dX6_earn_15 (by decide) ?_
    obtain ⟨r2, hr2, hf⟩ := bndS hf
    refine q_callS (rest := [.ref (ad 0)]) (st1 := [.int r2, .ref (ad 0)]) [.int a2, .int 1, .int 99] ⟨hx, hb, hml, hown, hts⟩ (c_X6_in hr2) (va_cwS 3 hts gX6_earn_X6_in rfl rfl rfl (by decide +kernel) ⟨Nat.le_of_ble_eq_true rfl, Nat.le_of_ble_eq_true rfl⟩) hw rfl hl.1 rfl (Nat.le_of_ble_eq_true rfl) dX6_earn_17 ⟨Nat.zero_le _, Nat.zero_le _⟩ rfl (fun H locs hw => ?_)
    refine lv_if_ne (tgt := 27) hx hb dX6_earn_20 (by decide) (fun hc => ?_) (fun hc => ?_)
    · have hf := iteF hf hc
      refine lv_iconst (v := 0) hx hb dX6_earn_27 (by decide) ?_
      exact B28 M a1 a2 0 H locs ls hf hw (lv_sub hl [0, 1, 2] rfl)
    · have hf := iteT hf hc
      refine lv_iconst (v := 2) hx hb dX6_earn_23 (by decide) ?_
      refine lv_goto (tgt := 28) hx hb dX6_earn_24 (by decide) ?_
      exact B28 M a1 a2 2 H locs ls hf hw (lv_sub hl [0, 1, 2] rfl)
  · have hf := iteT hf hc
    refine lv_iconst (v := 1) hx hb dX6_earn_9 (by decide) ?_
    refine lv_goto (tgt := 28) hx hb dX6_earn_10 (by decide) ?_
    exact B28 M a1 a2 1 H locs ls hf hw (lv_sub hl [0, 1, 2] rfl)

def f_X6_lend_b45    (M : MS) (x1 : Int32) (x2 : Int32) (y0 : Int32) : Option (Int32 × MS) := bnd2 (f_X6_holds M y0) (fun r1 M2 => (if r1 = 0 then some (0, M2) else bnd (f_X6_save M2) (fun M3 => bnd2 (f_X6_lends M3 x1 x2) (fun r4 M5 => some (r4, M5)))))
def f_X6_lend_b21    (M : MS) (x1 : Int32) (x2 : Int32) (y0 : Int32) : Option (Int32 × MS) := (if y0 = 0 then f_X6_lend_b45 M x1 x2 1 else bnd (f_X6_whyNoLoan M x1 x2) (fun r1 => (if r1 ≤ 0 then f_X6_lend_b45 M x1 x2 0 else f_X6_lend_b45 M x1 x2 2)))
def f_X6_lend_b20    (M : MS) (x1 : Int32) (x2 : Int32) : Option (Int32 × MS) := f_X6_lend_b21 M x1 x2 0
def f_X6_lend (M : MS)  (a1 : Int32) (a2 : Int32) : Option (Int32 × MS) := bnd (f_X6_isGuest M a1) (fun r1 => (if r1 = 0 then f_X6_lend_b20 M a1 a2 else bnd (f_X6_isGuest M a2) (fun r2 => (if r2 = 0 then f_X6_lend_b20 M a1 a2 else f_X6_lend_b21 M a1 a2 1))))
set_option maxHeartbeats 4000000 in
set_option maxRecDepth 100000 in
theorem c_X6_lend {l : Launch} {D : va_G} {cI cR : ClassId} {ad : Nat → Nat} {A : Nat → Prop} {M : MS} {M' : MS} {a1 : Int32} {a2 : Int32} {r : Int32}  (hf : f_X6_lend M a1 a2 = some (r, M')) : MC l yX6_lend wsX6_lend 3 65 D cI cR A [.ref (ad 0), .int a1, .int a2] (mws cI ad M) (some (.int r)) (mws cI ad M') := by
  refine Met.ofW (cc := cX6_lend) (maxL := 4) (ret := (some .int)) (by decide) rfl ?_
  intro p e s m args below meth c s₁ B hml hv
  obtain ⟨rfl, hw⟩ := q_start hv
  have hx := B.exec
  have hb := B.bytes
  have hr := B.returns
  have hts := atoms_spec (ws := wsX6_lend) B.pre
  have hown : s.vm.findClass RX6 = some m.cls := findClass_of_methodNamed B.named
  have hlocks := B.notSynchronized
  have hl := lv_entry ([.ref (ad 0), .int a1, .int a2]) (n := 4) (Nat.le_of_ble_eq_true rfl)
  rw [lg_entry_eq]
  generalize (lg_sl ([.ref (ad 0), .int a1, .int a2]) ++ List.replicate (4 - (lg_sl ([.ref (ad 0), .int a1, .int a2])).length) Slot.unset).toArray = ls at hl ⊢
  have hl : lv_has ls 4 [(0, .ref (ad 0)), (1, .int a1), (2, .int a2)] := hl
  unfold f_X6_lend at hf
  obtain ⟨H, eH⟩ : ∃ H, H = s.heap := ⟨_, rfl⟩
  obtain ⟨locs, eL⟩ : ∃ L : List Loc, L = [] := ⟨_, rfl⟩
  rw [← eH, ← eL] at hw ⊢
  clear eH eL
  have B45 : ∀ (M : MS) (x1 : Int32) (x2 : Int32) (y0 : Int32) (H : Heap) (locs : List Loc) (ls : Array Slot), f_X6_lend_b45 M x1 x2 y0 = some (r, M') → WH D cI cR A (mws cI ad M) s H locs → lv_has ls 4 [(0, .ref (ad 0)), (1, .int x1), (2, .int x2)] → W p l e (headSpec wsX6_lend ({ frames := 3, cells := 0, slots := 0, locals := 65 })).room s m ([.ref (ad 0), .int a1, .int a2] : List Value).toArray below meth c H locs 0 0 (MQ below (QV (some (.int r)) D A (mws cI ad M')) (([.ref (ad 0), .int a1, .int a2] : List Value)).toArray s 0 0 A) (F0 m 45 ls [.int y0, .ref (ad 0)]) := by
    intro M x1 x2 y0 H locs ls hf hw hl
    unfold f_X6_lend_b45 at hf
    obtain ⟨r1, M2, hr2, hf⟩ := bnd2S hf
    refine q_callV (rest := []) (st1 := [.int r1]) [.int y0] ⟨hx, hb, hml, hown, hts⟩ (c_X6_holds hr2) (cwV 1 hts gX6_lend_X6_holds rfl rfl rfl (by decide +kernel) ⟨Nat.le_of_ble_eq_true rfl, Nat.le_of_ble_eq_true rfl⟩) hw ma_0 rfl rfl hl.1 rfl (Nat.le_of_ble_eq_true rfl) dX6_lend_45 ⟨Nat.zero_le _, Nat.zero_le _⟩ rfl (fun H locs hw => ?_)
    refine lv_if_ne (tgt := 53) hx hb dX6_lend_48 (by decide) (fun hc => ?_) (fun hc => ?_)
    · have hf := iteF hf hc
      refine lv_aload_n hx hb dX6_lend_53 rfl (lv_at hl 0 rfl) ?_
      obtain ⟨M3, hr3, hf⟩ := bndS hf
      refine q_callV (rest := []) (st1 := []) [] ⟨hx, hb, hml, hown, hts⟩ (c_X6_save hr3) (cwV 0 hts gX6_lend_X6_save rfl rfl rfl (by decide +kernel) ⟨Nat.le_of_ble_eq_true rfl, Nat.le_of_ble_eq_true rfl⟩) hw ma_0 rfl rfl hl.1 rfl (Nat.le_of_ble_eq_true rfl) dX6_lend_54 ⟨Nat.zero_le _, Nat.zero_le _⟩ rfl (fun H locs hw => ?_)
      refine lv_aload_n hx hb dX6_lend_57 rfl (lv_at hl 0 rfl) ?_
      refine lv_iload_n hx hb dX6_lend_58 rfl (lv_at hl 1 rfl) ?_
      refine lv_iload_n hx hb dX6_lend_59 rfl (lv_at hl 2 rfl) ?_
      obtain ⟨r4, M5, hr5, hf⟩ := bnd2S hf
      refine q_callV (rest := []) (st1 := [.int r4]) [.int x1, .int x2] ⟨hx, hb, hml, hown, hts⟩ (c_X6_lends hr5) (cwV 2 hts gX6_lend_X6_lends rfl rfl rfl (by decide +kernel) ⟨Nat.le_of_ble_eq_true rfl, Nat.le_of_ble_eq_true rfl⟩) hw ma_0 rfl rfl hl.1 rfl (Nat.le_of_ble_eq_true rfl) dX6_lend_60 ⟨Nat.zero_le _, Nat.zero_le _⟩ rfl (fun H locs hw => ?_)
      cases hf
      exact q_iret hx hb hr hlocks hw dX6_lend_63
    · have hf := iteT hf hc
      refine lv_iconst (v := 0) hx hb dX6_lend_51 (by decide) ?_
      cases hf
      exact q_iret hx hb hr hlocks hw dX6_lend_52
  have B21 : ∀ (M : MS) (x1 : Int32) (x2 : Int32) (y0 : Int32) (H : Heap) (locs : List Loc) (ls : Array Slot), f_X6_lend_b21 M x1 x2 y0 = some (r, M') → WH D cI cR A (mws cI ad M) s H locs → lv_has ls 4 [(0, .ref (ad 0)), (1, .int x1), (2, .int x2)] → W p l e (headSpec wsX6_lend ({ frames := 3, cells := 0, slots := 0, locals := 65 })).room s m ([.ref (ad 0), .int a1, .int a2] : List Value).toArray below meth c H locs 0 0 (MQ below (QV (some (.int r)) D A (mws cI ad M')) (([.ref (ad 0), .int a1, .int a2] : List Value)).toArray s 0 0 A) (F0 m 21 ls [.int y0]) := by
    intro M x1 x2 y0 H locs ls hf hw hl
    unfold f_X6_lend_b21 at hf
    refine lv_istore_n (lv' := [(3, .int y0), (0, .ref (ad 0)), (1, .int x1), (2, .int x2)]) hx hb dX6_lend_21 rfl hl (by decide) rfl (fun ls hl => ?_)
    refine lv_aload_n hx hb dX6_lend_22 rfl (lv_at hl 1 rfl) ?_
    refine lv_iload_n hx hb dX6_lend_23 rfl (lv_at hl 0 rfl) ?_
    refine lv_if_ne (tgt := 31) hx hb dX6_lend_24 (by decide) (fun hc => ?_) (fun hc => ?_)
    · have hf := iteF hf hc
      refine lv_aload_n hx hb dX6_lend_31 rfl (lv_at hl 1 rfl) ?_
      refine lv_iload_n hx hb dX6_lend_32 rfl (lv_at hl 2 rfl) ?_
      refine lv_iload_n hx hb dX6_lend_33 rfl (lv_at hl 3 rfl) ?_
      obtain ⟨r1, hr1, hf⟩ := bndS hf
      refine q_callV (rest := [.ref (ad 0)]) (st1 := [.int r1, .ref (ad 0)]) [.int x1, .int x2] ⟨hx, hb, hml, hown, hts⟩ (c_X6_whyNoLoan hr1) (cwV 2 hts gX6_lend_X6_whyNoLoan rfl rfl rfl (by decide +kernel) ⟨Nat.le_of_ble_eq_true rfl, Nat.le_of_ble_eq_true rfl⟩) hw ma_0 rfl rfl hl.1 rfl (Nat.le_of_ble_eq_true rfl) dX6_lend_34 ⟨Nat.zero_le _, Nat.zero_le _⟩ rfl (fun H locs hw => ?_)
      refine lv_if_le (tgt := 44) hx hb dX6_lend_37 (by decide) (fun hc => ?_) (fun hc => ?_)
      · have hf := iteT hf hc
        refine lv_iconst (v := 0) hx hb dX6_lend_44 (by decide) ?_
        exact B45 M x1 x2 0 H locs ls hf hw (lv_sub hl [1, 2, 3] rfl)
      · have hf := iteF hf hc
        refine lv_iconst (v := 2) hx hb dX6_lend_40 (by decide) ?_
        refine lv_goto (tgt := 45) hx hb dX6_lend_41 (by decide) ?_
        exact B45 M x1 x2 2 H locs ls hf hw (lv_sub hl [1, 2, 3] rfl)
    · have hf := iteT hf hc
      refine lv_iconst (v := 1) hx hb dX6_lend_27 (by decide) ?_
      refine lv_goto (tgt := 45) hx hb dX6_lend_28 (by decide) ?_
      exact B45 M x1 x2 1 H locs ls hf hw (lv_sub hl [1, 2, 3] rfl)
  have B20 : ∀ (M : MS) (x1 : Int32) (x2 : Int32) (H : Heap) (locs : List Loc) (ls : Array Slot), f_X6_lend_b20 M x1 x2 = some (r, M') → WH D cI cR A (mws cI ad M) s H locs → lv_has ls 4 [(0, .ref (ad 0)), (1, .int x1), (2, .int x2)] → W p l e (headSpec wsX6_lend ({ frames := 3, cells := 0, slots := 0, locals := 65 })).room s m ([.ref (ad 0), .int a1, .int a2] : List Value).toArray below meth c H locs 0 0 (MQ below (QV (some (.int r)) D A (mws cI ad M')) (([.ref (ad 0), .int a1, .int a2] : List Value)).toArray s 0 0 A) (F0 m 20 ls []) := by
    intro M x1 x2 H locs ls hf hw hl
    unfold f_X6_lend_b20 at hf
    refine lv_iconst (v := 0) hx hb dX6_lend_20 (by decide) ?_
    exact B21 M x1 x2 0 H locs ls hf hw (lv_sub hl [0, 1, 2] rfl)
  refine lv_aload_n hx hb dX6_lend_0 rfl (lv_at hl 0 rfl) ?_
  refine lv_iload_n hx hb dX6_lend_1 rfl (lv_at hl 1 rfl) ?_
  obtain ⟨r1, hr1, hf⟩ := bndS hf
  refine q_callV (rest := []) (st1 := [.int r1]) [.int a1] ⟨hx, hb, hml, hown, hts⟩ (c_X6_isGuest hr1) (cwV 1 hts gX6_lend_X6_isGuest rfl rfl rfl (by decide +kernel) ⟨Nat.le_of_ble_eq_true rfl, Nat.le_of_ble_eq_true rfl⟩) hw ma_0 rfl rfl hl.1 rfl (Nat.le_of_ble_eq_true rfl) dX6_lend_2 ⟨Nat.zero_le _, Nat.zero_le _⟩ rfl (fun H locs hw => ?_)
  refine lv_if_eq (tgt := 20) hx hb dX6_lend_5 (by decide) (fun hc => ?_) (fun hc => ?_)
  · have hf := iteT hf hc
    exact B20 M a1 a2 H locs ls hf hw (lv_sub hl [0, 1, 2] rfl)
  · have hf := iteF hf hc
    refine lv_aload_n hx hb dX6_lend_8 rfl (lv_at hl 0 rfl) ?_
    refine lv_iload_n hx hb dX6_lend_9 rfl (lv_at hl 2 rfl) ?_
    obtain ⟨r2, hr2, hf⟩ := bndS hf
    refine q_callV (rest := []) (st1 := [.int r2]) [.int a2] ⟨hx, hb, hml, hown, hts⟩ (c_X6_isGuest hr2) (cwV 1 hts gX6_lend_X6_isGuest rfl rfl rfl (by decide +kernel) ⟨Nat.le_of_ble_eq_true rfl, Nat.le_of_ble_eq_true rfl⟩) hw ma_0 rfl rfl hl.1 rfl (Nat.le_of_ble_eq_true rfl) dX6_lend_10 ⟨Nat.zero_le _, Nat.zero_le _⟩ rfl (fun H locs hw => ?_)
    refine lv_if_eq (tgt := 20) hx hb dX6_lend_13 (by decide) (fun hc => ?_) (fun hc => ?_)
    · have hf := iteT hf hc
      exact B20 M a1 a2 H locs ls hf hw (lv_sub hl [0, 1, 2] rfl)
    · have hf := iteF hf hc
      refine lv_iconst (v := 1) hx hb dX6_lend_16 (by decide) ?_
      refine lv_goto (tgt := 21) hx hb dX6_lend_17 (by decide) ?_
      exact B21 M a1 a2 1 H locs ls hf hw (lv_sub hl [0, 1, 2] rfl)

def f_X6_giveBack_b95    (M : MS) (x3 : Int32) (y0 : Int32) (y1 : Int32) (y2 : Int32) : Option (Int32 × MS) := bnd (f_X6_lay M y2 y1 y0) (fun M1 => some (x3, M1))
def f_X6_giveBack_b68    (M : MS) (x1 : Int32) (x3 : Int32) (y0 : Int32) (y1 : Int32) (y2 : Int32) : Option (Int32 × MS) := bnd (f_X6_lay M y2 y1 y0) (fun M1 => bnd (f_X6_lay M1 x1 4 (-1)) (fun M2 => bnd (f_X6_lentTo M2 x1) (fun r3 => (if r3 = (-1) then f_X6_giveBack_b95 M2 x3 x1 4 x1 else f_X6_giveBack_b95 M2 x3 (-1) 4 x1))))
def f_X6_giveBack_b28    (M : MS) (x1 : Int32) (y0 : Int32) : Option (Int32 × MS) := bnd2 (f_X6_holds M y0) (fun r1 M2 => (if r1 = 0 then some (0, M2) else bnd (f_X6_save M2) (fun M3 => bnd (f_X6_of M3 x1 4) (fun r4 => bnd (f_X6_isBorrowed M3 r4) (fun r5 => (if r5 = 0 then f_X6_giveBack_b68 M3 x1 r4 r4 4 r4 else bnd (f_X6_of M3 r4 4) (fun r6 => f_X6_giveBack_b68 M3 x1 r4 r6 4 r4)))))))
def f_X6_giveBack (M : MS)  (a1 : Int32) : Option (Int32 × MS) := bnd (f_X6_isGuest M a1) (fun r1 => (if r1 = 0 then f_X6_giveBack_b28 M a1 1 else bnd (f_X6_canGiveBack M a1) (fun r2 => (if r2 = 0 then f_X6_giveBack_b28 M a1 2 else f_X6_giveBack_b28 M a1 0))))
set_option maxHeartbeats 4000000 in
set_option maxRecDepth 100000 in
theorem c_X6_giveBack {l : Launch} {D : va_G} {cI cR : ClassId} {ad : Nat → Nat} {A : Nat → Prop} {M : MS} {M' : MS} {a1 : Int32} {r : Int32}  (hf : f_X6_giveBack M a1 = some (r, M')) : MC l yX6_giveBack wsX6_giveBack 3 64 D cI cR A [.ref (ad 0), .int a1] (mws cI ad M) (some (.int r)) (mws cI ad M') := by
  refine Met.ofW (cc := cX6_giveBack) (maxL := 4) (ret := (some .int)) (by decide) rfl ?_
  intro p e s m args below meth c s₁ B hml hv
  obtain ⟨rfl, hw⟩ := q_start hv
  have hx := B.exec
  have hb := B.bytes
  have hr := B.returns
  have hts := atoms_spec (ws := wsX6_giveBack) B.pre
  have hown : s.vm.findClass RX6 = some m.cls := findClass_of_methodNamed B.named
  have hlocks := B.notSynchronized
  have hl := lv_entry ([.ref (ad 0), .int a1]) (n := 4) (Nat.le_of_ble_eq_true rfl)
  rw [lg_entry_eq]
  generalize (lg_sl ([.ref (ad 0), .int a1]) ++ List.replicate (4 - (lg_sl ([.ref (ad 0), .int a1])).length) Slot.unset).toArray = ls at hl ⊢
  have hl : lv_has ls 4 [(0, .ref (ad 0)), (1, .int a1)] := hl
  unfold f_X6_giveBack at hf
  obtain ⟨H, eH⟩ : ∃ H, H = s.heap := ⟨_, rfl⟩
  obtain ⟨locs, eL⟩ : ∃ L : List Loc, L = [] := ⟨_, rfl⟩
  rw [← eH, ← eL] at hw ⊢
  clear eH eL
  have B95 : ∀ (M : MS) (x3 : Int32) (y0 : Int32) (y1 : Int32) (y2 : Int32) (H : Heap) (locs : List Loc) (ls : Array Slot), f_X6_giveBack_b95 M x3 y0 y1 y2 = some (r, M') → WH D cI cR A (mws cI ad M) s H locs → lv_has ls 4 [(3, .int x3)] → W p l e (headSpec wsX6_giveBack ({ frames := 3, cells := 0, slots := 0, locals := 64 })).room s m ([.ref (ad 0), .int a1] : List Value).toArray below meth c H locs 0 0 (MQ below (QV (some (.int r)) D A (mws cI ad M')) (([.ref (ad 0), .int a1] : List Value)).toArray s 0 0 A) (F0 m 95 ls [.int y0, .int y1, .int y2, .ref (ad 0)]) := by
    intro M x3 y0 y1 y2 H locs ls hf hw hl
    unfold f_X6_giveBack_b95 at hf
    obtain ⟨M1, hr1, hf⟩ := bndS hf
    refine q_callV (rest := []) (st1 := []) [.int y2, .int y1, .int y0] ⟨hx, hb, hml, hown, hts⟩ (c_X6_lay hr1) (cwV 3 hts gX6_giveBack_X6_lay rfl rfl rfl (by decide +kernel) ⟨Nat.le_of_ble_eq_true rfl, Nat.le_of_ble_eq_true rfl⟩) hw ma_0 rfl rfl hl.1 rfl (Nat.le_of_ble_eq_true rfl) dX6_giveBack_95 ⟨Nat.zero_le _, Nat.zero_le _⟩ rfl (fun H locs hw => ?_)
    refine lv_iload_n hx hb dX6_giveBack_98 rfl (lv_at hl 0 rfl) ?_
    cases hf
    exact q_iret hx hb hr hlocks hw dX6_giveBack_99
  have B68 : ∀ (M : MS) (x1 : Int32) (x3 : Int32) (y0 : Int32) (y1 : Int32) (y2 : Int32) (H : Heap) (locs : List Loc) (ls : Array Slot), f_X6_giveBack_b68 M x1 x3 y0 y1 y2 = some (r, M') → WH D cI cR A (mws cI ad M) s H locs → lv_has ls 4 [(0, .ref (ad 0)), (1, .int x1), (3, .int x3)] → W p l e (headSpec wsX6_giveBack ({ frames := 3, cells := 0, slots := 0, locals := 64 })).room s m ([.ref (ad 0), .int a1] : List Value).toArray below meth c H locs 0 0 (MQ below (QV (some (.int r)) D A (mws cI ad M')) (([.ref (ad 0), .int a1] : List Value)).toArray s 0 0 A) (F0 m 68 ls [.int y0, .int y1, .int y2, .ref (ad 0)]) := by
    intro M x1 x3 y0 y1 y2 H locs ls hf hw hl
    unfold f_X6_giveBack_b68 at hf
    obtain ⟨M1, hr1, hf⟩ := bndS hf
    refine q_callV (rest := []) (st1 := []) [.int y2, .int y1, .int y0] ⟨hx, hb, hml, hown, hts⟩ (c_X6_lay hr1) (cwV 3 hts gX6_giveBack_X6_lay rfl rfl rfl (by decide +kernel) ⟨Nat.le_of_ble_eq_true rfl, Nat.le_of_ble_eq_true rfl⟩) hw ma_0 rfl rfl hl.1 rfl (Nat.le_of_ble_eq_true rfl) dX6_giveBack_68 ⟨Nat.zero_le _, Nat.zero_le _⟩ rfl (fun H locs hw => ?_)
    refine lv_aload_n hx hb dX6_giveBack_71 rfl (lv_at hl 0 rfl) ?_
    refine lv_iload_n hx hb dX6_giveBack_72 rfl (lv_at hl 1 rfl) ?_
    refine lv_iconst (v := 4) hx hb dX6_giveBack_73 (by decide) ?_
    refine lv_iconst (v := (-1)) hx hb dX6_giveBack_74 (by decide) ?_
    obtain ⟨M2, hr2, hf⟩ := bndS hf
    refine q_callV (rest := []) (st1 := []) [.int x1, .int 4, .int (-1)] ⟨hx, hb, hml, hown, hts⟩ (c_X6_lay hr2) (cwV 3 hts gX6_giveBack_X6_lay rfl rfl rfl (by decide +kernel) ⟨Nat.le_of_ble_eq_true rfl, Nat.le_of_ble_eq_true rfl⟩) hw ma_0 rfl rfl hl.1 rfl (Nat.le_of_ble_eq_true rfl) dX6_giveBack_75 ⟨Nat.zero_le _, Nat.zero_le _⟩ rfl (fun H locs hw => ?_)
    refine lv_aload_n hx hb dX6_giveBack_78 rfl (lv_at hl 0 rfl) ?_
    refine lv_iload_n hx hb dX6_giveBack_79 rfl (lv_at hl 1 rfl) ?_
    refine lv_iconst (v := 4) hx hb dX6_giveBack_80 (by decide) ?_
    refine lv_aload_n hx hb dX6_giveBack_81 rfl (lv_at hl 0 rfl) ?_
    refine lv_iload_n hx hb dX6_giveBack_82 rfl (lv_at hl 1 rfl) ?_
    obtain ⟨r3, hr3, hf⟩ := bndS hf
    refine q_callV (rest := [.int 4, .int x1, .ref (ad 0)]) (st1 := [.int r3, .int 4, .int x1, .ref (ad 0)]) [.int x1] ⟨hx, hb, hml, hown, hts⟩ (c_X6_lentTo hr3) (cwV 1 hts gX6_giveBack_X6_lentTo rfl rfl rfl (by decide +kernel) ⟨Nat.le_of_ble_eq_true rfl, Nat.le_of_ble_eq_true rfl⟩) hw ma_0 rfl rfl hl.1 rfl (Nat.le_of_ble_eq_true rfl) dX6_giveBack_83 ⟨Nat.zero_le _, Nat.zero_le _⟩ rfl (fun H locs hw => ?_)
    refine lv_iconst (v := (-1)) hx hb dX6_giveBack_86 (by decide) ?_
    refine lv_icmp_ne (tgt := 94) hx hb dX6_giveBack_87 (by decide) (fun hc => ?_) (fun hc => ?_)
    · have hf := iteF hf hc
      refine lv_iconst (v := (-1)) hx hb dX6_giveBack_94 (by decide) ?_
      exact B95 M2 x3 (-1) 4 x1 H locs ls hf hw (lv_sub hl [2] rfl)
    · have hf := iteT hf hc
      refine lv_iload_n hx hb dX6_giveBack_90 rfl (lv_at hl 1 rfl) ?_
      refine lv_goto (tgt := 95) hx hb dX6_giveBack_91 (by decide) ?_
      exact B95 M2 x3 x1 4 x1 H locs ls hf hw (lv_sub hl [2] rfl)
  have B28 : ∀ (M : MS) (x1 : Int32) (y0 : Int32) (H : Heap) (locs : List Loc) (ls : Array Slot), f_X6_giveBack_b28 M x1 y0 = some (r, M') → WH D cI cR A (mws cI ad M) s H locs → lv_has ls 4 [(0, .ref (ad 0)), (1, .int x1)] → W p l e (headSpec wsX6_giveBack ({ frames := 3, cells := 0, slots := 0, locals := 64 })).room s m ([.ref (ad 0), .int a1] : List Value).toArray below meth c H locs 0 0 (MQ below (QV (some (.int r)) D A (mws cI ad M')) (([.ref (ad 0), .int a1] : List Value)).toArray s 0 0 A) (F0 m 28 ls [.int y0, .ref (ad 0)]) := by
    intro M x1 y0 H locs ls hf hw hl
    unfold f_X6_giveBack_b28 at hf
    obtain ⟨r1, M2, hr2, hf⟩ := bnd2S hf
    refine q_callV (rest := []) (st1 := [.int r1]) [.int y0] ⟨hx, hb, hml, hown, hts⟩ (c_X6_holds hr2) (cwV 1 hts gX6_giveBack_X6_holds rfl rfl rfl (by decide +kernel) ⟨Nat.le_of_ble_eq_true rfl, Nat.le_of_ble_eq_true rfl⟩) hw ma_0 rfl rfl hl.1 rfl (Nat.le_of_ble_eq_true rfl) dX6_giveBack_28 ⟨Nat.zero_le _, Nat.zero_le _⟩ rfl (fun H locs hw => ?_)
    refine lv_if_ne (tgt := 36) hx hb dX6_giveBack_31 (by decide) (fun hc => ?_) (fun hc => ?_)
    · have hf := iteF hf hc
      refine lv_aload_n hx hb dX6_giveBack_36 rfl (lv_at hl 0 rfl) ?_
      obtain ⟨M3, hr3, hf⟩ := bndS hf
      refine q_callV (rest := []) (st1 := []) [] ⟨hx, hb, hml, hown, hts⟩ (c_X6_save hr3) (cwV 0 hts gX6_giveBack_X6_save rfl rfl rfl (by decide +kernel) ⟨Nat.le_of_ble_eq_true rfl, Nat.le_of_ble_eq_true rfl⟩) hw ma_0 rfl rfl hl.1 rfl (Nat.le_of_ble_eq_true rfl) dX6_giveBack_37 ⟨Nat.zero_le _, Nat.zero_le _⟩ rfl (fun H locs hw => ?_)
      refine lv_aload_n hx hb dX6_giveBack_40 rfl (lv_at hl 0 rfl) ?_
      refine lv_iload_n hx hb dX6_giveBack_41 rfl (lv_at hl 1 rfl) ?_
      refine lv_iconst (v := 4) hx hb dX6_giveBack_42 (by decide) ?_
      obtain ⟨r4, hr4, hf⟩ := bndS hf
      refine q_callV (rest := []) (st1 := [.int r4]) [.int x1, .int 4] ⟨hx, hb, hml, hown, hts⟩ (c_X6_of hr4) (cwV 2 hts gX6_giveBack_X6_of rfl rfl rfl (by decide +kernel) ⟨Nat.le_of_ble_eq_true rfl, Nat.le_of_ble_eq_true rfl⟩) hw ma_0 rfl rfl hl.1 rfl (Nat.le_of_ble_eq_true rfl) dX6_giveBack_43 ⟨Nat.zero_le _, Nat.zero_le _⟩ rfl (fun H locs hw => ?_)
      refine lv_istore_n (lv' := [(3, .int r4), (0, .ref (ad 0)), (1, .int x1)]) hx hb dX6_giveBack_46 rfl hl (by decide) rfl (fun ls hl => ?_)
      refine lv_aload_n hx hb dX6_giveBack_47 rfl (lv_at hl 1 rfl) ?_
      refine lv_iload_n hx hb dX6_giveBack_48 rfl (lv_at hl 0 rfl) ?_
      refine lv_iconst (v := 4) hx hb dX6_giveBack_49 (by decide) ?_
      refine lv_aload_n hx hb dX6_giveBack_50 rfl (lv_at hl 1 rfl) ?_
      refine lv_iload_n hx hb dX6_giveBack_51 rfl (lv_at hl 0 rfl) ?_
      obtain ⟨r5, hr5, hf⟩ := bndS hf
      refine q_callV (rest := [.int 4, .int r4, .ref (ad 0)]) (st1 := [.int r5, .int 4, .int r4, .ref (ad 0)]) [.int r4] ⟨hx, hb, hml, hown, hts⟩ (c_X6_isBorrowed hr5) (cwV 1 hts gX6_giveBack_X6_isBorrowed rfl rfl rfl (by decide +kernel) ⟨Nat.le_of_ble_eq_true rfl, Nat.le_of_ble_eq_true rfl⟩) hw ma_0 rfl rfl hl.1 rfl (Nat.le_of_ble_eq_true rfl) dX6_giveBack_52 ⟨Nat.zero_le _, Nat.zero_le _⟩ rfl (fun H locs hw => ?_)
      refine lv_if_eq (tgt := 67) hx hb dX6_giveBack_55 (by decide) (fun hc => ?_) (fun hc => ?_)
      · have hf := iteT hf hc
        refine lv_iload_n hx hb dX6_giveBack_67 rfl (lv_at hl 0 rfl) ?_
        exact B68 M3 x1 r4 r4 4 r4 H locs ls hf hw (lv_sub hl [1, 2, 0] rfl)
      · have hf := iteF hf hc
        refine lv_aload_n hx hb dX6_giveBack_58 rfl (lv_at hl 1 rfl) ?_
        refine lv_iload_n hx hb dX6_giveBack_59 rfl (lv_at hl 0 rfl) ?_
        refine lv_iconst (v := 4) hx hb dX6_giveBack_60 (by decide) ?_
        obtain ⟨r6, hr6, hf⟩ := bndS hf
        refine q_callV (rest := [.int 4, .int r4, .ref (ad 0)]) (st1 := [.int r6, .int 4, .int r4, .ref (ad 0)]) [.int r4, .int 4] ⟨hx, hb, hml, hown, hts⟩ (c_X6_of hr6) (cwV 2 hts gX6_giveBack_X6_of rfl rfl rfl (by decide +kernel) ⟨Nat.le_of_ble_eq_true rfl, Nat.le_of_ble_eq_true rfl⟩) hw ma_0 rfl rfl hl.1 rfl (Nat.le_of_ble_eq_true rfl) dX6_giveBack_61 ⟨Nat.zero_le _, Nat.zero_le _⟩ rfl (fun H locs hw => ?_)
        refine lv_goto (tgt := 68) hx hb dX6_giveBack_64 (by decide) ?_
        exact B68 M3 x1 r4 r6 4 r4 H locs ls hf hw (lv_sub hl [1, 2, 0] rfl)
    · have hf := iteT hf hc
      refine lv_iconst (v := 0) hx hb dX6_giveBack_34 (by decide) ?_
      cases hf
      exact q_iret hx hb hr hlocks hw dX6_giveBack_35
  refine lv_aload_n hx hb dX6_giveBack_0 rfl (lv_at hl 0 rfl) ?_
  refine lv_iload_n hx hb dX6_giveBack_1 rfl (lv_at hl 1 rfl) ?_
  obtain ⟨r1, hr1, hf⟩ := bndS hf
  refine q_callV (rest := []) (st1 := [.int r1]) [.int a1] ⟨hx, hb, hml, hown, hts⟩ (c_X6_isGuest hr1) (cwV 1 hts gX6_giveBack_X6_isGuest rfl rfl rfl (by decide +kernel) ⟨Nat.le_of_ble_eq_true rfl, Nat.le_of_ble_eq_true rfl⟩) hw ma_0 rfl rfl hl.1 rfl (Nat.le_of_ble_eq_true rfl) dX6_giveBack_2 ⟨Nat.zero_le _, Nat.zero_le _⟩ rfl (fun H locs hw => ?_)
  refine lv_istore_n (lv' := [(2, .int r1), (0, .ref (ad 0)), (1, .int a1)]) hx hb dX6_giveBack_5 rfl hl (by decide) rfl (fun ls hl => ?_)
  refine lv_aload_n hx hb dX6_giveBack_6 rfl (lv_at hl 1 rfl) ?_
  refine lv_iload_n hx hb dX6_giveBack_7 rfl (lv_at hl 0 rfl) ?_
  refine lv_if_ne (tgt := 15) hx hb dX6_giveBack_8 (by decide) (fun hc => ?_) (fun hc => ?_)
  · have hf := iteF hf hc
    refine lv_aload_n hx hb dX6_giveBack_15 rfl (lv_at hl 1 rfl) ?_
    refine lv_iload_n hx hb dX6_giveBack_16 rfl (lv_at hl 2 rfl) ?_
    obtain ⟨r2, hr2, hf⟩ := bndS hf
    refine q_callV (rest := [.ref (ad 0)]) (st1 := [.int r2, .ref (ad 0)]) [.int a1] ⟨hx, hb, hml, hown, hts⟩ (c_X6_canGiveBack hr2) (cwV 1 hts gX6_giveBack_X6_canGiveBack rfl rfl rfl (by decide +kernel) ⟨Nat.le_of_ble_eq_true rfl, Nat.le_of_ble_eq_true rfl⟩) hw ma_0 rfl rfl hl.1 rfl (Nat.le_of_ble_eq_true rfl) dX6_giveBack_17 ⟨Nat.zero_le _, Nat.zero_le _⟩ rfl (fun H locs hw => ?_)
    refine lv_if_ne (tgt := 27) hx hb dX6_giveBack_20 (by decide) (fun hc => ?_) (fun hc => ?_)
    · have hf := iteF hf hc
      refine lv_iconst (v := 0) hx hb dX6_giveBack_27 (by decide) ?_
      exact B28 M a1 0 H locs ls hf hw (lv_sub hl [1, 2] rfl)
    · have hf := iteT hf hc
      refine lv_iconst (v := 2) hx hb dX6_giveBack_23 (by decide) ?_
      refine lv_goto (tgt := 28) hx hb dX6_giveBack_24 (by decide) ?_
      exact B28 M a1 2 H locs ls hf hw (lv_sub hl [1, 2] rfl)
  · have hf := iteT hf hc
    refine lv_iconst (v := 1) hx hb dX6_giveBack_11 (by decide) ?_
    refine lv_goto (tgt := 28) hx hb dX6_giveBack_12 (by decide) ?_
    exact B28 M a1 1 H locs ls hf hw (lv_sub hl [1, 2] rfl)

def f_X6_mask_b28    (M : MS) (x1 : Int32) (y0 : Int32) : Option (Int32 × MS) := bnd2 (f_X6_holds M y0) (fun r1 M2 => (if r1 = 0 then some (0, M2) else bnd (f_X6_save M2) (fun M3 => bnd2 (f_X6_masks M3 x1) (fun r4 M5 => some (r4, M5)))))
def f_X6_mask (M : MS)  (a1 : Int32) : Option (Int32 × MS) := bnd (f_X6_isGuest M a1) (fun r1 => (if r1 = 0 then f_X6_mask_b28 M a1 1 else bnd (f_X6_whyNoMask M a1) (fun r2 => (if r2 ≤ 0 then f_X6_mask_b28 M a1 0 else f_X6_mask_b28 M a1 2))))
set_option maxHeartbeats 4000000 in
set_option maxRecDepth 100000 in
theorem c_X6_mask {l : Launch} {D : va_G} {cI cR : ClassId} {ad : Nat → Nat} {A : Nat → Prop} {M : MS} {M' : MS} {a1 : Int32} {r : Int32}  (hf : f_X6_mask M a1 = some (r, M')) : MC l yX6_mask wsX6_mask 3 66 D cI cR A [.ref (ad 0), .int a1] (mws cI ad M) (some (.int r)) (mws cI ad M') := by
  refine Met.ofW (cc := cX6_mask) (maxL := 3) (ret := (some .int)) (by decide) rfl ?_
  intro p e s m args below meth c s₁ B hml hv
  obtain ⟨rfl, hw⟩ := q_start hv
  have hx := B.exec
  have hb := B.bytes
  have hr := B.returns
  have hts := atoms_spec (ws := wsX6_mask) B.pre
  have hown : s.vm.findClass RX6 = some m.cls := findClass_of_methodNamed B.named
  have hlocks := B.notSynchronized
  have hl := lv_entry ([.ref (ad 0), .int a1]) (n := 3) (Nat.le_of_ble_eq_true rfl)
  rw [lg_entry_eq]
  generalize (lg_sl ([.ref (ad 0), .int a1]) ++ List.replicate (3 - (lg_sl ([.ref (ad 0), .int a1])).length) Slot.unset).toArray = ls at hl ⊢
  have hl : lv_has ls 3 [(0, .ref (ad 0)), (1, .int a1)] := hl
  unfold f_X6_mask at hf
  obtain ⟨H, eH⟩ : ∃ H, H = s.heap := ⟨_, rfl⟩
  obtain ⟨locs, eL⟩ : ∃ L : List Loc, L = [] := ⟨_, rfl⟩
  rw [← eH, ← eL] at hw ⊢
  clear eH eL
  have B28 : ∀ (M : MS) (x1 : Int32) (y0 : Int32) (H : Heap) (locs : List Loc) (ls : Array Slot), f_X6_mask_b28 M x1 y0 = some (r, M') → WH D cI cR A (mws cI ad M) s H locs → lv_has ls 3 [(0, .ref (ad 0)), (1, .int x1)] → W p l e (headSpec wsX6_mask ({ frames := 3, cells := 0, slots := 0, locals := 66 })).room s m ([.ref (ad 0), .int a1] : List Value).toArray below meth c H locs 0 0 (MQ below (QV (some (.int r)) D A (mws cI ad M')) (([.ref (ad 0), .int a1] : List Value)).toArray s 0 0 A) (F0 m 28 ls [.int y0, .ref (ad 0)]) := by
    intro M x1 y0 H locs ls hf hw hl
    unfold f_X6_mask_b28 at hf
    obtain ⟨r1, M2, hr2, hf⟩ := bnd2S hf
    refine q_callV (rest := []) (st1 := [.int r1]) [.int y0] ⟨hx, hb, hml, hown, hts⟩ (c_X6_holds hr2) (cwV 1 hts gX6_mask_X6_holds rfl rfl rfl (by decide +kernel) ⟨Nat.le_of_ble_eq_true rfl, Nat.le_of_ble_eq_true rfl⟩) hw ma_0 rfl rfl hl.1 rfl (Nat.le_of_ble_eq_true rfl) dX6_mask_28 ⟨Nat.zero_le _, Nat.zero_le _⟩ rfl (fun H locs hw => ?_)
    refine lv_if_ne (tgt := 36) hx hb dX6_mask_31 (by decide) (fun hc => ?_) (fun hc => ?_)
    · have hf := iteF hf hc
      refine lv_aload_n hx hb dX6_mask_36 rfl (lv_at hl 0 rfl) ?_
      obtain ⟨M3, hr3, hf⟩ := bndS hf
      refine q_callV (rest := []) (st1 := []) [] ⟨hx, hb, hml, hown, hts⟩ (c_X6_save hr3) (cwV 0 hts gX6_mask_X6_save rfl rfl rfl (by decide +kernel) ⟨Nat.le_of_ble_eq_true rfl, Nat.le_of_ble_eq_true rfl⟩) hw ma_0 rfl rfl hl.1 rfl (Nat.le_of_ble_eq_true rfl) dX6_mask_37 ⟨Nat.zero_le _, Nat.zero_le _⟩ rfl (fun H locs hw => ?_)
      refine lv_aload_n hx hb dX6_mask_40 rfl (lv_at hl 0 rfl) ?_
      refine lv_iload_n hx hb dX6_mask_41 rfl (lv_at hl 1 rfl) ?_
      obtain ⟨r4, M5, hr5, hf⟩ := bnd2S hf
      refine q_callV (rest := []) (st1 := [.int r4]) [.int x1] ⟨hx, hb, hml, hown, hts⟩ (c_X6_masks hr5) (cwV 1 hts gX6_mask_X6_masks rfl rfl rfl (by decide +kernel) ⟨Nat.le_of_ble_eq_true rfl, Nat.le_of_ble_eq_true rfl⟩) hw ma_0 rfl rfl hl.1 rfl (Nat.le_of_ble_eq_true rfl) dX6_mask_42 ⟨Nat.zero_le _, Nat.zero_le _⟩ rfl (fun H locs hw => ?_)
      cases hf
      exact q_iret hx hb hr hlocks hw dX6_mask_45
    · have hf := iteT hf hc
      refine lv_iconst (v := 0) hx hb dX6_mask_34 (by decide) ?_
      cases hf
      exact q_iret hx hb hr hlocks hw dX6_mask_35
  refine lv_aload_n hx hb dX6_mask_0 rfl (lv_at hl 0 rfl) ?_
  refine lv_iload_n hx hb dX6_mask_1 rfl (lv_at hl 1 rfl) ?_
  obtain ⟨r1, hr1, hf⟩ := bndS hf
  refine q_callV (rest := []) (st1 := [.int r1]) [.int a1] ⟨hx, hb, hml, hown, hts⟩ (c_X6_isGuest hr1) (cwV 1 hts gX6_mask_X6_isGuest rfl rfl rfl (by decide +kernel) ⟨Nat.le_of_ble_eq_true rfl, Nat.le_of_ble_eq_true rfl⟩) hw ma_0 rfl rfl hl.1 rfl (Nat.le_of_ble_eq_true rfl) dX6_mask_2 ⟨Nat.zero_le _, Nat.zero_le _⟩ rfl (fun H locs hw => ?_)
  refine lv_istore_n (lv' := [(2, .int r1), (0, .ref (ad 0)), (1, .int a1)]) hx hb dX6_mask_5 rfl hl (by decide) rfl (fun ls hl => ?_)
  refine lv_aload_n hx hb dX6_mask_6 rfl (lv_at hl 1 rfl) ?_
  refine lv_iload_n hx hb dX6_mask_7 rfl (lv_at hl 0 rfl) ?_
  refine lv_if_ne (tgt := 15) hx hb dX6_mask_8 (by decide) (fun hc => ?_) (fun hc => ?_)
  · have hf := iteF hf hc
    refine lv_aload_n hx hb dX6_mask_15 rfl (lv_at hl 1 rfl) ?_
    refine lv_iload_n hx hb dX6_mask_16 rfl (lv_at hl 2 rfl) ?_
    obtain ⟨r2, hr2, hf⟩ := bndS hf
    refine q_callV (rest := [.ref (ad 0)]) (st1 := [.int r2, .ref (ad 0)]) [.int a1] ⟨hx, hb, hml, hown, hts⟩ (c_X6_whyNoMask hr2) (cwV 1 hts gX6_mask_X6_whyNoMask rfl rfl rfl (by decide +kernel) ⟨Nat.le_of_ble_eq_true rfl, Nat.le_of_ble_eq_true rfl⟩) hw ma_0 rfl rfl hl.1 rfl (Nat.le_of_ble_eq_true rfl) dX6_mask_17 ⟨Nat.zero_le _, Nat.zero_le _⟩ rfl (fun H locs hw => ?_)
    refine lv_if_le (tgt := 27) hx hb dX6_mask_20 (by decide) (fun hc => ?_) (fun hc => ?_)
    · have hf := iteT hf hc
      refine lv_iconst (v := 0) hx hb dX6_mask_27 (by decide) ?_
      exact B28 M a1 0 H locs ls hf hw (lv_sub hl [1, 2] rfl)
    · have hf := iteF hf hc
      refine lv_iconst (v := 2) hx hb dX6_mask_23 (by decide) ?_
      refine lv_goto (tgt := 28) hx hb dX6_mask_24 (by decide) ?_
      exact B28 M a1 2 H locs ls hf hw (lv_sub hl [1, 2] rfl)
  · have hf := iteT hf hc
    refine lv_iconst (v := 1) hx hb dX6_mask_11 (by decide) ?_
    refine lv_goto (tgt := 28) hx hb dX6_mask_12 (by decide) ?_
    exact B28 M a1 1 H locs ls hf hw (lv_sub hl [1, 2] rfl)

def f_X6_pay_b14    (M : MS) (x1 : Int32) (y0 : Int32) : Option (Int32 × MS) := bnd2 (f_X6_holds M y0) (fun r1 M2 => (if r1 = 0 then some (0, M2) else bnd (f_X6_save M2) (fun M3 => bnd2 (f_X6_pays M3 x1) (fun r4 M5 => some (r4, M5)))))
def f_X6_pay (M : MS)  (a1 : Int32) : Option (Int32 × MS) := bnd (f_X6_isGuest M a1) (fun r1 => (if r1 = 0 then f_X6_pay_b14 M a1 1 else f_X6_pay_b14 M a1 0))
set_option maxHeartbeats 4000000 in
set_option maxRecDepth 100000 in
theorem c_X6_pay {l : Launch} {D : va_G} {cI cR : ClassId} {ad : Nat → Nat} {A : Nat → Prop} {M : MS} {M' : MS} {a1 : Int32} {r : Int32}  (hf : f_X6_pay M a1 = some (r, M')) : MC l yX6_pay wsX6_pay 3 67 D cI cR A [.ref (ad 0), .int a1] (mws cI ad M) (some (.int r)) (mws cI ad M') := by
  refine Met.ofW (cc := cX6_pay) (maxL := 2) (ret := (some .int)) (by decide) rfl ?_
  intro p e s m args below meth c s₁ B hml hv
  obtain ⟨rfl, hw⟩ := q_start hv
  have hx := B.exec
  have hb := B.bytes
  have hr := B.returns
  have hts := atoms_spec (ws := wsX6_pay) B.pre
  have hown : s.vm.findClass RX6 = some m.cls := findClass_of_methodNamed B.named
  have hlocks := B.notSynchronized
  have hl := lv_entry ([.ref (ad 0), .int a1]) (n := 2) (Nat.le_of_ble_eq_true rfl)
  rw [lg_entry_eq]
  generalize (lg_sl ([.ref (ad 0), .int a1]) ++ List.replicate (2 - (lg_sl ([.ref (ad 0), .int a1])).length) Slot.unset).toArray = ls at hl ⊢
  have hl : lv_has ls 2 [(0, .ref (ad 0)), (1, .int a1)] := hl
  unfold f_X6_pay at hf
  obtain ⟨H, eH⟩ : ∃ H, H = s.heap := ⟨_, rfl⟩
  obtain ⟨locs, eL⟩ : ∃ L : List Loc, L = [] := ⟨_, rfl⟩
  rw [← eH, ← eL] at hw ⊢
  clear eH eL
  have B14 : ∀ (M : MS) (x1 : Int32) (y0 : Int32) (H : Heap) (locs : List Loc) (ls : Array Slot), f_X6_pay_b14 M x1 y0 = some (r, M') → WH D cI cR A (mws cI ad M) s H locs → lv_has ls 2 [(0, .ref (ad 0)), (1, .int x1)] → W p l e (headSpec wsX6_pay ({ frames := 3, cells := 0, slots := 0, locals := 67 })).room s m ([.ref (ad 0), .int a1] : List Value).toArray below meth c H locs 0 0 (MQ below (QV (some (.int r)) D A (mws cI ad M')) (([.ref (ad 0), .int a1] : List Value)).toArray s 0 0 A) (F0 m 14 ls [.int y0, .ref (ad 0)]) := by
    intro M x1 y0 H locs ls hf hw hl
    unfold f_X6_pay_b14 at hf
    obtain ⟨r1, M2, hr2, hf⟩ := bnd2S hf
    refine q_callV (rest := []) (st1 := [.int r1]) [.int y0] ⟨hx, hb, hml, hown, hts⟩ (c_X6_holds hr2) (cwV 1 hts gX6_pay_X6_holds rfl rfl rfl (by decide +kernel) ⟨Nat.le_of_ble_eq_true rfl, Nat.le_of_ble_eq_true rfl⟩) hw ma_0 rfl rfl hl.1 rfl (Nat.le_of_ble_eq_true rfl) dX6_pay_14 ⟨Nat.zero_le _, Nat.zero_le _⟩ rfl (fun H locs hw => ?_)
    refine lv_if_ne (tgt := 22) hx hb dX6_pay_17 (by decide) (fun hc => ?_) (fun hc => ?_)
    · have hf := iteF hf hc
      refine lv_aload_n hx hb dX6_pay_22 rfl (lv_at hl 0 rfl) ?_
      obtain ⟨M3, hr3, hf⟩ := bndS hf
      refine q_callV (rest := []) (st1 := []) [] ⟨hx, hb, hml, hown, hts⟩ (c_X6_save hr3) (cwV 0 hts gX6_pay_X6_save rfl rfl rfl (by decide +kernel) ⟨Nat.le_of_ble_eq_true rfl, Nat.le_of_ble_eq_true rfl⟩) hw ma_0 rfl rfl hl.1 rfl (Nat.le_of_ble_eq_true rfl) dX6_pay_23 ⟨Nat.zero_le _, Nat.zero_le _⟩ rfl (fun H locs hw => ?_)
      refine lv_aload_n hx hb dX6_pay_26 rfl (lv_at hl 0 rfl) ?_
      refine lv_iload_n hx hb dX6_pay_27 rfl (lv_at hl 1 rfl) ?_
      obtain ⟨r4, M5, hr5, hf⟩ := bnd2S hf
      refine q_callV (rest := []) (st1 := [.int r4]) [.int x1] ⟨hx, hb, hml, hown, hts⟩ (c_X6_pays hr5) (cwV 1 hts gX6_pay_X6_pays rfl rfl rfl (by decide +kernel) ⟨Nat.le_of_ble_eq_true rfl, Nat.le_of_ble_eq_true rfl⟩) hw ma_0 rfl rfl hl.1 rfl (Nat.le_of_ble_eq_true rfl) dX6_pay_28 ⟨Nat.zero_le _, Nat.zero_le _⟩ rfl (fun H locs hw => ?_)
      cases hf
      exact q_iret hx hb hr hlocks hw dX6_pay_31
    · have hf := iteT hf hc
      refine lv_iconst (v := 0) hx hb dX6_pay_20 (by decide) ?_
      cases hf
      exact q_iret hx hb hr hlocks hw dX6_pay_21
  refine lv_aload_n hx hb dX6_pay_0 rfl (lv_at hl 0 rfl) ?_
  refine lv_aload_n hx hb dX6_pay_1 rfl (lv_at hl 0 rfl) ?_
  refine lv_iload_n hx hb dX6_pay_2 rfl (lv_at hl 1 rfl) ?_
  obtain ⟨r1, hr1, hf⟩ := bndS hf
  refine q_callV (rest := [.ref (ad 0)]) (st1 := [.int r1, .ref (ad 0)]) [.int a1] ⟨hx, hb, hml, hown, hts⟩ (c_X6_isGuest hr1) (cwV 1 hts gX6_pay_X6_isGuest rfl rfl rfl (by decide +kernel) ⟨Nat.le_of_ble_eq_true rfl, Nat.le_of_ble_eq_true rfl⟩) hw ma_0 rfl rfl hl.1 rfl (Nat.le_of_ble_eq_true rfl) dX6_pay_3 ⟨Nat.zero_le _, Nat.zero_le _⟩ rfl (fun H locs hw => ?_)
  refine lv_if_eq (tgt := 13) hx hb dX6_pay_6 (by decide) (fun hc => ?_) (fun hc => ?_)
  · have hf := iteT hf hc
    refine lv_iconst (v := 1) hx hb dX6_pay_13 (by decide) ?_
    exact B14 M a1 1 H locs ls hf hw (lv_sub hl [0, 1] rfl)
  · have hf := iteF hf hc
    refine lv_iconst (v := 0) hx hb dX6_pay_9 (by decide) ?_
    refine lv_goto (tgt := 14) hx hb dX6_pay_10 (by decide) ?_
    exact B14 M a1 0 H locs ls hf hw (lv_sub hl [0, 1] rfl)

def f_X6_queue_b43    (M : MS) (x1 : Int32) (x2 : Int32) (y0 : Int32) : Option (Int32 × MS) := bnd2 (f_X6_holds M y0) (fun r1 M2 => (if r1 = 0 then some (0, M2) else bnd (f_X6_save M2) (fun M3 => bnd2 (f_X6_queues M3 x1 x2) (fun r4 M5 => some (r4, M5)))))
def f_X6_queue_b20    (M : MS) (x1 : Int32) (x2 : Int32) (y0 : Int32) : Option (Int32 × MS) := (if y0 = 0 then f_X6_queue_b43 M x1 x2 1 else bnd (f_X6_whyNoLine M x1) (fun r1 => (if r1 ≤ 0 then f_X6_queue_b43 M x1 x2 0 else f_X6_queue_b43 M x1 x2 2)))
def f_X6_queue_b19    (M : MS) (x1 : Int32) (x2 : Int32) : Option (Int32 × MS) := f_X6_queue_b20 M x1 x2 0
def f_X6_queue (M : MS)  (a1 : Int32) (a2 : Int32) : Option (Int32 × MS) := bnd (f_X6_isGuest M a1) (fun r1 => (if r1 = 0 then f_X6_queue_b19 M a1 a2 else bnd (f_X6_isGate a2) (fun r2 => (if r2 = 0 then f_X6_queue_b19 M a1 a2 else f_X6_queue_b20 M a1 a2 1))))
set_option maxHeartbeats 4000000 in
set_option maxRecDepth 100000 in
theorem c_X6_queue {l : Launch} {D : va_G} {cI cR : ClassId} {ad : Nat → Nat} {A : Nat → Prop} {M : MS} {M' : MS} {a1 : Int32} {a2 : Int32} {r : Int32}  (hf : f_X6_queue M a1 a2 = some (r, M')) : MC l yX6_queue wsX6_queue 3 66 D cI cR A [.ref (ad 0), .int a1, .int a2] (mws cI ad M) (some (.int r)) (mws cI ad M') := by
  refine Met.ofW (cc := cX6_queue) (maxL := 4) (ret := (some .int)) (by decide) rfl ?_
  intro p e s m args below meth c s₁ B hml hv
  obtain ⟨rfl, hw⟩ := q_start hv
  have hx := B.exec
  have hb := B.bytes
  have hr := B.returns
  have hts := atoms_spec (ws := wsX6_queue) B.pre
  have hown : s.vm.findClass RX6 = some m.cls := findClass_of_methodNamed B.named
  have hlocks := B.notSynchronized
  have hl := lv_entry ([.ref (ad 0), .int a1, .int a2]) (n := 4) (Nat.le_of_ble_eq_true rfl)
  rw [lg_entry_eq]
  generalize (lg_sl ([.ref (ad 0), .int a1, .int a2]) ++ List.replicate (4 - (lg_sl ([.ref (ad 0), .int a1, .int a2])).length) Slot.unset).toArray = ls at hl ⊢
  have hl : lv_has ls 4 [(0, .ref (ad 0)), (1, .int a1), (2, .int a2)] := hl
  unfold f_X6_queue at hf
  obtain ⟨H, eH⟩ : ∃ H, H = s.heap := ⟨_, rfl⟩
  obtain ⟨locs, eL⟩ : ∃ L : List Loc, L = [] := ⟨_, rfl⟩
  rw [← eH, ← eL] at hw ⊢
  clear eH eL
  have B43 : ∀ (M : MS) (x1 : Int32) (x2 : Int32) (y0 : Int32) (H : Heap) (locs : List Loc) (ls : Array Slot), f_X6_queue_b43 M x1 x2 y0 = some (r, M') → WH D cI cR A (mws cI ad M) s H locs → lv_has ls 4 [(0, .ref (ad 0)), (1, .int x1), (2, .int x2)] → W p l e (headSpec wsX6_queue ({ frames := 3, cells := 0, slots := 0, locals := 66 })).room s m ([.ref (ad 0), .int a1, .int a2] : List Value).toArray below meth c H locs 0 0 (MQ below (QV (some (.int r)) D A (mws cI ad M')) (([.ref (ad 0), .int a1, .int a2] : List Value)).toArray s 0 0 A) (F0 m 43 ls [.int y0, .ref (ad 0)]) := by
    intro M x1 x2 y0 H locs ls hf hw hl
    unfold f_X6_queue_b43 at hf
    obtain ⟨r1, M2, hr2, hf⟩ := bnd2S hf
    refine q_callV (rest := []) (st1 := [.int r1]) [.int y0] ⟨hx, hb, hml, hown, hts⟩ (c_X6_holds hr2) (cwV 1 hts gX6_queue_X6_holds rfl rfl rfl (by decide +kernel) ⟨Nat.le_of_ble_eq_true rfl, Nat.le_of_ble_eq_true rfl⟩) hw ma_0 rfl rfl hl.1 rfl (Nat.le_of_ble_eq_true rfl) dX6_queue_43 ⟨Nat.zero_le _, Nat.zero_le _⟩ rfl (fun H locs hw => ?_)
    refine lv_if_ne (tgt := 51) hx hb dX6_queue_46 (by decide) (fun hc => ?_) (fun hc => ?_)
    · have hf := iteF hf hc
      refine lv_aload_n hx hb dX6_queue_51 rfl (lv_at hl 0 rfl) ?_
      obtain ⟨M3, hr3, hf⟩ := bndS hf
      refine q_callV (rest := []) (st1 := []) [] ⟨hx, hb, hml, hown, hts⟩ (c_X6_save hr3) (cwV 0 hts gX6_queue_X6_save rfl rfl rfl (by decide +kernel) ⟨Nat.le_of_ble_eq_true rfl, Nat.le_of_ble_eq_true rfl⟩) hw ma_0 rfl rfl hl.1 rfl (Nat.le_of_ble_eq_true rfl) dX6_queue_52 ⟨Nat.zero_le _, Nat.zero_le _⟩ rfl (fun H locs hw => ?_)
      refine lv_aload_n hx hb dX6_queue_55 rfl (lv_at hl 0 rfl) ?_
      refine lv_iload_n hx hb dX6_queue_56 rfl (lv_at hl 1 rfl) ?_
      refine lv_iload_n hx hb dX6_queue_57 rfl (lv_at hl 2 rfl) ?_
      obtain ⟨r4, M5, hr5, hf⟩ := bnd2S hf
      refine q_callV (rest := []) (st1 := [.int r4]) [.int x1, .int x2] ⟨hx, hb, hml, hown, hts⟩ (c_X6_queues hr5) (cwV 2 hts gX6_queue_X6_queues rfl rfl rfl (by decide +kernel) ⟨Nat.le_of_ble_eq_true rfl, Nat.le_of_ble_eq_true rfl⟩) hw ma_0 rfl rfl hl.1 rfl (Nat.le_of_ble_eq_true rfl) dX6_queue_58 ⟨Nat.zero_le _, Nat.zero_le _⟩ rfl (fun H locs hw => ?_)
      cases hf
      exact q_iret hx hb hr hlocks hw dX6_queue_61
    · have hf := iteT hf hc
      refine lv_iconst (v := 0) hx hb dX6_queue_49 (by decide) ?_
      cases hf
      exact q_iret hx hb hr hlocks hw dX6_queue_50
  have B20 : ∀ (M : MS) (x1 : Int32) (x2 : Int32) (y0 : Int32) (H : Heap) (locs : List Loc) (ls : Array Slot), f_X6_queue_b20 M x1 x2 y0 = some (r, M') → WH D cI cR A (mws cI ad M) s H locs → lv_has ls 4 [(0, .ref (ad 0)), (1, .int x1), (2, .int x2)] → W p l e (headSpec wsX6_queue ({ frames := 3, cells := 0, slots := 0, locals := 66 })).room s m ([.ref (ad 0), .int a1, .int a2] : List Value).toArray below meth c H locs 0 0 (MQ below (QV (some (.int r)) D A (mws cI ad M')) (([.ref (ad 0), .int a1, .int a2] : List Value)).toArray s 0 0 A) (F0 m 20 ls [.int y0]) := by
    intro M x1 x2 y0 H locs ls hf hw hl
    unfold f_X6_queue_b20 at hf
    refine lv_istore_n (lv' := [(3, .int y0), (0, .ref (ad 0)), (1, .int x1), (2, .int x2)]) hx hb dX6_queue_20 rfl hl (by decide) rfl (fun ls hl => ?_)
    refine lv_aload_n hx hb dX6_queue_21 rfl (lv_at hl 1 rfl) ?_
    refine lv_iload_n hx hb dX6_queue_22 rfl (lv_at hl 0 rfl) ?_
    refine lv_if_ne (tgt := 30) hx hb dX6_queue_23 (by decide) (fun hc => ?_) (fun hc => ?_)
    · have hf := iteF hf hc
      refine lv_aload_n hx hb dX6_queue_30 rfl (lv_at hl 1 rfl) ?_
      refine lv_iload_n hx hb dX6_queue_31 rfl (lv_at hl 2 rfl) ?_
      obtain ⟨r1, hr1, hf⟩ := bndS hf
      refine q_callV (rest := [.ref (ad 0)]) (st1 := [.int r1, .ref (ad 0)]) [.int x1] ⟨hx, hb, hml, hown, hts⟩ (c_X6_whyNoLine hr1) (cwV 1 hts gX6_queue_X6_whyNoLine rfl rfl rfl (by decide +kernel) ⟨Nat.le_of_ble_eq_true rfl, Nat.le_of_ble_eq_true rfl⟩) hw ma_0 rfl rfl hl.1 rfl (Nat.le_of_ble_eq_true rfl) dX6_queue_32 ⟨Nat.zero_le _, Nat.zero_le _⟩ rfl (fun H locs hw => ?_)
      refine lv_if_le (tgt := 42) hx hb dX6_queue_35 (by decide) (fun hc => ?_) (fun hc => ?_)
      · have hf := iteT hf hc
        refine lv_iconst (v := 0) hx hb dX6_queue_42 (by decide) ?_
        exact B43 M x1 x2 0 H locs ls hf hw (lv_sub hl [1, 2, 3] rfl)
      · have hf := iteF hf hc
        refine lv_iconst (v := 2) hx hb dX6_queue_38 (by decide) ?_
        refine lv_goto (tgt := 43) hx hb dX6_queue_39 (by decide) ?_
        exact B43 M x1 x2 2 H locs ls hf hw (lv_sub hl [1, 2, 3] rfl)
    · have hf := iteT hf hc
      refine lv_iconst (v := 1) hx hb dX6_queue_26 (by decide) ?_
      refine lv_goto (tgt := 43) hx hb dX6_queue_27 (by decide) ?_
      exact B43 M x1 x2 1 H locs ls hf hw (lv_sub hl [1, 2, 3] rfl)
  have B19 : ∀ (M : MS) (x1 : Int32) (x2 : Int32) (H : Heap) (locs : List Loc) (ls : Array Slot), f_X6_queue_b19 M x1 x2 = some (r, M') → WH D cI cR A (mws cI ad M) s H locs → lv_has ls 4 [(0, .ref (ad 0)), (1, .int x1), (2, .int x2)] → W p l e (headSpec wsX6_queue ({ frames := 3, cells := 0, slots := 0, locals := 66 })).room s m ([.ref (ad 0), .int a1, .int a2] : List Value).toArray below meth c H locs 0 0 (MQ below (QV (some (.int r)) D A (mws cI ad M')) (([.ref (ad 0), .int a1, .int a2] : List Value)).toArray s 0 0 A) (F0 m 19 ls []) := by
    intro M x1 x2 H locs ls hf hw hl
    unfold f_X6_queue_b19 at hf
    refine lv_iconst (v := 0) hx hb dX6_queue_19 (by decide) ?_
    exact B20 M x1 x2 0 H locs ls hf hw (lv_sub hl [0, 1, 2] rfl)
  refine lv_aload_n hx hb dX6_queue_0 rfl (lv_at hl 0 rfl) ?_
  refine lv_iload_n hx hb dX6_queue_1 rfl (lv_at hl 1 rfl) ?_
  obtain ⟨r1, hr1, hf⟩ := bndS hf
  refine q_callV (rest := []) (st1 := [.int r1]) [.int a1] ⟨hx, hb, hml, hown, hts⟩ (c_X6_isGuest hr1) (cwV 1 hts gX6_queue_X6_isGuest rfl rfl rfl (by decide +kernel) ⟨Nat.le_of_ble_eq_true rfl, Nat.le_of_ble_eq_true rfl⟩) hw ma_0 rfl rfl hl.1 rfl (Nat.le_of_ble_eq_true rfl) dX6_queue_2 ⟨Nat.zero_le _, Nat.zero_le _⟩ rfl (fun H locs hw => ?_)
  refine lv_if_eq (tgt := 19) hx hb dX6_queue_5 (by decide) (fun hc => ?_) (fun hc => ?_)
  · have hf := iteT hf hc
    exact B19 M a1 a2 H locs ls hf hw (lv_sub hl [0, 1, 2] rfl)
  · have hf := iteF hf hc
    refine lv_iload_n hx hb dX6_queue_8 rfl (lv_at hl 2 rfl) ?_
    obtain ⟨r2, hr2, hf⟩ := bndS hf
    refine q_callS (rest := []) (st1 := [.int r2]) [.int a2] ⟨hx, hb, hml, hown, hts⟩ (c_X6_isGate hr2) (va_cwS 1 hts gX6_queue_X6_isGate rfl rfl rfl (by decide +kernel) ⟨Nat.le_of_ble_eq_true rfl, Nat.le_of_ble_eq_true rfl⟩) hw rfl hl.1 rfl (Nat.le_of_ble_eq_true rfl) dX6_queue_9 ⟨Nat.zero_le _, Nat.zero_le _⟩ rfl (fun H locs hw => ?_)
    refine lv_if_eq (tgt := 19) hx hb dX6_queue_12 (by decide) (fun hc => ?_) (fun hc => ?_)
    · have hf := iteT hf hc
      exact B19 M a1 a2 H locs ls hf hw (lv_sub hl [0, 1, 2] rfl)
    · have hf := iteF hf hc
      refine lv_iconst (v := 1) hx hb dX6_queue_15 (by decide) ?_
      refine lv_goto (tgt := 20) hx hb dX6_queue_16 (by decide) ?_
      exact B20 M a1 a2 1 H locs ls hf hw (lv_sub hl [0, 1, 2] rfl)

def f_X6_open_b27    (M : MS) (x1 : Int32) (y0 : Int32) : Option (Int32 × MS) := bnd2 (f_X6_holds M y0) (fun r1 M2 => (if r1 = 0 then some (0, M2) else bnd (f_X6_save M2) (fun M3 => bnd2 (f_X6_opens M3 x1) (fun r4 M5 => some (r4, M5)))))
def f_X6_open (M : MS)  (a1 : Int32) : Option (Int32 × MS) := bnd (f_X6_isGate a1) (fun r1 => (if r1 = 0 then f_X6_open_b27 M a1 1 else bnd (f_X6_lineLength M a1) (fun r2 => (if r2 = 0 then f_X6_open_b27 M a1 2 else f_X6_open_b27 M a1 0))))
set_option maxHeartbeats 4000000 in
set_option maxRecDepth 100000 in
theorem c_X6_open {l : Launch} {D : va_G} {cI cR : ClassId} {ad : Nat → Nat} {A : Nat → Prop} {M : MS} {M' : MS} {a1 : Int32} {r : Int32}  (hf : f_X6_open M a1 = some (r, M')) : MC l yX6_open wsX6_open 4 99 D cI cR A [.ref (ad 0), .int a1] (mws cI ad M) (some (.int r)) (mws cI ad M') := by
  refine Met.ofW (cc := cX6_open) (maxL := 3) (ret := (some .int)) (by decide) rfl ?_
  intro p e s m args below meth c s₁ B hml hv
  obtain ⟨rfl, hw⟩ := q_start hv
  have hx := B.exec
  have hb := B.bytes
  have hr := B.returns
  have hts := atoms_spec (ws := wsX6_open) B.pre
  have hown : s.vm.findClass RX6 = some m.cls := findClass_of_methodNamed B.named
  have hlocks := B.notSynchronized
  have hl := lv_entry ([.ref (ad 0), .int a1]) (n := 3) (Nat.le_of_ble_eq_true rfl)
  rw [lg_entry_eq]
  generalize (lg_sl ([.ref (ad 0), .int a1]) ++ List.replicate (3 - (lg_sl ([.ref (ad 0), .int a1])).length) Slot.unset).toArray = ls at hl ⊢
  have hl : lv_has ls 3 [(0, .ref (ad 0)), (1, .int a1)] := hl
  unfold f_X6_open at hf
  obtain ⟨H, eH⟩ : ∃ H, H = s.heap := ⟨_, rfl⟩
  obtain ⟨locs, eL⟩ : ∃ L : List Loc, L = [] := ⟨_, rfl⟩
  rw [← eH, ← eL] at hw ⊢
  clear eH eL
  have B27 : ∀ (M : MS) (x1 : Int32) (y0 : Int32) (H : Heap) (locs : List Loc) (ls : Array Slot), f_X6_open_b27 M x1 y0 = some (r, M') → WH D cI cR A (mws cI ad M) s H locs → lv_has ls 3 [(0, .ref (ad 0)), (1, .int x1)] → W p l e (headSpec wsX6_open ({ frames := 4, cells := 0, slots := 0, locals := 99 })).room s m ([.ref (ad 0), .int a1] : List Value).toArray below meth c H locs 0 0 (MQ below (QV (some (.int r)) D A (mws cI ad M')) (([.ref (ad 0), .int a1] : List Value)).toArray s 0 0 A) (F0 m 27 ls [.int y0, .ref (ad 0)]) := by
    intro M x1 y0 H locs ls hf hw hl
    unfold f_X6_open_b27 at hf
    obtain ⟨r1, M2, hr2, hf⟩ := bnd2S hf
    refine q_callV (rest := []) (st1 := [.int r1]) [.int y0] ⟨hx, hb, hml, hown, hts⟩ (c_X6_holds hr2) (cwV 1 hts gX6_open_X6_holds rfl rfl rfl (by decide +kernel) ⟨Nat.le_of_ble_eq_true rfl, Nat.le_of_ble_eq_true rfl⟩) hw ma_0 rfl rfl hl.1 rfl (Nat.le_of_ble_eq_true rfl) dX6_open_27 ⟨Nat.zero_le _, Nat.zero_le _⟩ rfl (fun H locs hw => ?_)
    refine lv_if_ne (tgt := 35) hx hb dX6_open_30 (by decide) (fun hc => ?_) (fun hc => ?_)
    · have hf := iteF hf hc
      refine lv_aload_n hx hb dX6_open_35 rfl (lv_at hl 0 rfl) ?_
      obtain ⟨M3, hr3, hf⟩ := bndS hf
      refine q_callV (rest := []) (st1 := []) [] ⟨hx, hb, hml, hown, hts⟩ (c_X6_save hr3) (cwV 0 hts gX6_open_X6_save rfl rfl rfl (by decide +kernel) ⟨Nat.le_of_ble_eq_true rfl, Nat.le_of_ble_eq_true rfl⟩) hw ma_0 rfl rfl hl.1 rfl (Nat.le_of_ble_eq_true rfl) dX6_open_36 ⟨Nat.zero_le _, Nat.zero_le _⟩ rfl (fun H locs hw => ?_)
      refine lv_aload_n hx hb dX6_open_39 rfl (lv_at hl 0 rfl) ?_
      refine lv_iload_n hx hb dX6_open_40 rfl (lv_at hl 1 rfl) ?_
      obtain ⟨r4, M5, hr5, hf⟩ := bnd2S hf
      refine q_callV (rest := []) (st1 := [.int r4]) [.int x1] ⟨hx, hb, hml, hown, hts⟩ (c_X6_opens hr5) (cwV 1 hts gX6_open_X6_opens rfl rfl rfl (by decide +kernel) ⟨Nat.le_of_ble_eq_true rfl, Nat.le_of_ble_eq_true rfl⟩) hw ma_0 rfl rfl hl.1 rfl (Nat.le_of_ble_eq_true rfl) dX6_open_41 ⟨Nat.zero_le _, Nat.zero_le _⟩ rfl (fun H locs hw => ?_)
      cases hf
      exact q_iret hx hb hr hlocks hw dX6_open_44
    · have hf := iteT hf hc
      refine lv_iconst (v := 0) hx hb dX6_open_33 (by decide) ?_
      cases hf
      exact q_iret hx hb hr hlocks hw dX6_open_34
  refine lv_iload_n hx hb dX6_open_0 rfl (lv_at hl 1 rfl) ?_
  obtain ⟨r1, hr1, hf⟩ := bndS hf
  refine q_callS (rest := []) (st1 := [.int r1]) [.int a1] ⟨hx, hb, hml, hown, hts⟩ (c_X6_isGate hr1) (va_cwS 1 hts gX6_open_X6_isGate rfl rfl rfl (by decide +kernel) ⟨Nat.le_of_ble_eq_true rfl, Nat.le_of_ble_eq_true rfl⟩) hw rfl hl.1 rfl (Nat.le_of_ble_eq_true rfl) dX6_open_1 ⟨Nat.zero_le _, Nat.zero_le _⟩ rfl (fun H locs hw => ?_)
  refine lv_istore_n (lv' := [(2, .int r1), (0, .ref (ad 0)), (1, .int a1)]) hx hb dX6_open_4 rfl hl (by decide) rfl (fun ls hl => ?_)
  refine lv_aload_n hx hb dX6_open_5 rfl (lv_at hl 1 rfl) ?_
  refine lv_iload_n hx hb dX6_open_6 rfl (lv_at hl 0 rfl) ?_
  refine lv_if_ne (tgt := 14) hx hb dX6_open_7 (by decide) (fun hc => ?_) (fun hc => ?_)
  · have hf := iteF hf hc
    refine lv_aload_n hx hb dX6_open_14 rfl (lv_at hl 1 rfl) ?_
    refine lv_iload_n hx hb dX6_open_15 rfl (lv_at hl 2 rfl) ?_
    obtain ⟨r2, hr2, hf⟩ := bndS hf
    refine q_callV (rest := [.ref (ad 0)]) (st1 := [.int r2, .ref (ad 0)]) [.int a1] ⟨hx, hb, hml, hown, hts⟩ (c_X6_lineLength hr2) (cwV 1 hts gX6_open_X6_lineLength rfl rfl rfl (by decide +kernel) ⟨Nat.le_of_ble_eq_true rfl, Nat.le_of_ble_eq_true rfl⟩) hw ma_0 rfl rfl hl.1 rfl (Nat.le_of_ble_eq_true rfl) dX6_open_16 ⟨Nat.zero_le _, Nat.zero_le _⟩ rfl (fun H locs hw => ?_)
    refine lv_if_ne (tgt := 26) hx hb dX6_open_19 (by decide) (fun hc => ?_) (fun hc => ?_)
    · have hf := iteF hf hc
      refine lv_iconst (v := 0) hx hb dX6_open_26 (by decide) ?_
      exact B27 M a1 0 H locs ls hf hw (lv_sub hl [1, 2] rfl)
    · have hf := iteT hf hc
      refine lv_iconst (v := 2) hx hb dX6_open_22 (by decide) ?_
      refine lv_goto (tgt := 27) hx hb dX6_open_23 (by decide) ?_
      exact B27 M a1 2 H locs ls hf hw (lv_sub hl [1, 2] rfl)
  · have hf := iteT hf hc
    refine lv_iconst (v := 1) hx hb dX6_open_10 (by decide) ?_
    refine lv_goto (tgt := 27) hx hb dX6_open_11 (by decide) ?_
    exact B27 M a1 1 H locs ls hf hw (lv_sub hl [1, 2] rfl)

def f_X6_night (M : MS)   : Option (Int32 × MS) := nm (upMS M 3 0 0) (fun M1 => bnd (f_X6_save M1) (fun M2 => bnd2 (f_X6_nights M2) (fun r3 M4 => some (r3, M4))))
set_option maxHeartbeats 4000000 in
set_option maxRecDepth 100000 in
theorem c_X6_night {l : Launch} {D : va_G} {cI cR : ClassId} {ad : Nat → Nat} {A : Nat → Prop} {M : MS} {M' : MS}  {r : Int32}  (hf : f_X6_night M = some (r, M')) : MC l yX6_night wsX6_night 2 45 D cI cR A [.ref (ad 0)] (mws cI ad M) (some (.int r)) (mws cI ad M') := by
  refine Met.ofW (cc := cX6_night) (maxL := 1) (ret := (some .int)) (by decide) rfl ?_
  intro p e s m args below meth c s₁ B hml hv
  obtain ⟨rfl, hw⟩ := q_start hv
  have hx := B.exec
  have hb := B.bytes
  have hr := B.returns
  have hts := atoms_spec (ws := wsX6_night) B.pre
  have hown : s.vm.findClass RX6 = some m.cls := findClass_of_methodNamed B.named
  have hlocks := B.notSynchronized
  have hiX6 : ∀ w ∈ wsX60, w ∈ wsX6_night := by decide +kernel
  have hl := lv_entry ([.ref (ad 0)]) (n := 1) (Nat.le_of_ble_eq_true rfl)
  rw [lg_entry_eq]
  generalize (lg_sl ([.ref (ad 0)]) ++ List.replicate (1 - (lg_sl ([.ref (ad 0)])).length) Slot.unset).toArray = ls at hl ⊢
  have hl : lv_has ls 1 [(0, .ref (ad 0))] := hl
  unfold f_X6_night at hf
  obtain ⟨H, eH⟩ : ∃ H, H = s.heap := ⟨_, rfl⟩
  obtain ⟨locs, eL⟩ : ∃ L : List Loc, L = [] := ⟨_, rfl⟩
  rw [← eH, ← eL] at hw ⊢
  clear eH eL
  refine lv_aload_n hx hb dX6_night_0 rfl (lv_at hl 0 rfl) ?_
  refine lv_iconst (v := 0) hx hb dX6_night_1 (by decide) ?_
  obtain ⟨M1, hM1, hf⟩ := nmE hf
  refine q_put (ty := .int) hx hb hts hiX6 tyX6 tyX6_ok nmX6 hown hw 0 ma_0 rfl 0 (by decide) (hts (.fieldLink RX6 19 "LaceRanksModel" "thrown" "I") (by decide +kernel)) rfl (by decide +kernel) rfl rfl (Nat.le_of_ble_eq_true rfl) dX6_night_2 (ms_0_0.trans (congrArg (fun z => (mws cI ad z)) hM1.symm)) (fun H locs hw => ?_)
  refine lv_aload_n hx hb dX6_night_5 rfl (lv_at hl 0 rfl) ?_
  obtain ⟨M2, hr2, hf⟩ := bndS hf
  refine q_callV (rest := []) (st1 := []) [] ⟨hx, hb, hml, hown, hts⟩ (c_X6_save hr2) (cwV 0 hts gX6_night_X6_save rfl rfl rfl (by decide +kernel) ⟨Nat.le_of_ble_eq_true rfl, Nat.le_of_ble_eq_true rfl⟩) hw ma_0 rfl rfl hl.1 rfl (Nat.le_of_ble_eq_true rfl) dX6_night_6 ⟨Nat.zero_le _, Nat.zero_le _⟩ rfl (fun H locs hw => ?_)
  refine lv_aload_n hx hb dX6_night_9 rfl (lv_at hl 0 rfl) ?_
  obtain ⟨r3, M4, hr4, hf⟩ := bnd2S hf
  refine q_callV (rest := []) (st1 := [.int r3]) [] ⟨hx, hb, hml, hown, hts⟩ (c_X6_nights hr4) (cwV 0 hts gX6_night_X6_nights rfl rfl rfl (by decide +kernel) ⟨Nat.le_of_ble_eq_true rfl, Nat.le_of_ble_eq_true rfl⟩) hw ma_0 rfl rfl hl.1 rfl (Nat.le_of_ble_eq_true rfl) dX6_night_10 ⟨Nat.zero_le _, Nat.zero_le _⟩ rfl (fun H locs hw => ?_)
  cases hf
  exact q_iret hx hb hr hlocks hw dX6_night_13

def f_X6_most   (a0 : Int32) : Option Int32 := (if a0 = 0 then some 20 else (if a0 = 1 then some 10 else (if a0 = 5 then some 99 else (some 9))))
set_option maxHeartbeats 4000000 in
set_option maxRecDepth 100000 in
theorem c_X6_most {l : Launch} {D : va_G} {cI cR : ClassId} {A : Nat → Prop} {w : va_W}  {a0 : Int32} {r : Int32}  (hf : f_X6_most a0 = some r) : MC l yX6_most wsX6_most 0 0 D cI cR A [.int a0] w (some (.int r)) w := by
  refine Met.ofW (cc := cX6_most) (maxL := 1) (ret := (some .int)) (by decide) rfl ?_
  intro p e s m args below meth c s₁ B hml hv
  obtain ⟨rfl, hw⟩ := q_start hv
  have hx := B.exec
  have hb := B.bytes
  have hr := B.returns
  have hts := atoms_spec (ws := wsX6_most) B.pre
  have hown : s.vm.findClass RX6 = some m.cls := findClass_of_methodNamed B.named
  have hlocks := B.notSynchronized
  have hl := lv_entry ([.int a0]) (n := 1) (Nat.le_of_ble_eq_true rfl)
  rw [lg_entry_eq]
  generalize (lg_sl ([.int a0]) ++ List.replicate (1 - (lg_sl ([.int a0])).length) Slot.unset).toArray = ls at hl ⊢
  have hl : lv_has ls 1 [(0, .int a0)] := hl
  unfold f_X6_most at hf
  obtain ⟨H, eH⟩ : ∃ H, H = s.heap := ⟨_, rfl⟩
  obtain ⟨locs, eL⟩ : ∃ L : List Loc, L = [] := ⟨_, rfl⟩
  rw [← eH, ← eL] at hw ⊢
  clear eH eL
  refine lv_iload_n hx hb dX6_most_0 rfl (lv_at hl 0 rfl) ?_
  by_cases hc0 : a0 = 0
  · have hf := iteT hf hc0
    refine lv_lookup (tgt := 36) hx hb dX6_most_1 (by decide) (by first | (rw [hc0]; done) | (rw [hc0]; rfl)) (by decide) ?_
    refine lv_bipush (v := 20) hx hb dX6_most_36 (by decide) ?_
    cases hf
    exact q_iret hx hb hr hlocks hw dX6_most_38
  replace hf := iteF hf hc0
  by_cases hc1 : a0 = 1
  · have hf := iteT hf hc1
    refine lv_lookup (tgt := 39) hx hb dX6_most_1 (by decide) (by first | (rw [hc1]; done) | (rw [hc1]; rfl)) (by decide) ?_
    refine lv_bipush (v := 10) hx hb dX6_most_39 (by decide) ?_
    cases hf
    exact q_iret hx hb hr hlocks hw dX6_most_41
  replace hf := iteF hf hc1
  by_cases hc2 : a0 = 5
  · have hf := iteT hf hc2
    refine lv_lookup (tgt := 42) hx hb dX6_most_1 (by decide) (by first | (rw [hc2]; done) | (rw [hc2]; rfl)) (by decide) ?_
    refine lv_bipush (v := 99) hx hb dX6_most_42 (by decide) ?_
    cases hf
    exact q_iret hx hb hr hlocks hw dX6_most_44
  replace hf := iteF hf hc2
  refine lv_lookup (tgt := 45) hx hb dX6_most_1 (by decide) (by show Op.lookupswitch.offset [(0, 35), (1, 38), (5, 41)] (44) _ = 44; simp only [Op.lookupswitch.offset, if_neg (ne_toInt' hc0 (k := 0) (by decide)), if_neg (ne_toInt' hc1 (k := 1) (by decide)), if_neg (ne_toInt' hc2 (k := 5) (by decide))]) (by decide) ?_
  refine lv_bipush (v := 9) hx hb dX6_most_45 (by decide) ?_
  cases hf
  exact q_iret hx hb hr hlocks hw dX6_most_47

def f_X6_set_b51    (M : MS) (x1 : Int32) (x2 : Int32) (y0 : Int32) : Option (Int32 × MS) := bnd2 (f_X6_holds M y0) (fun r1 M2 => (if r1 = 0 then some (0, M2) else bnd (f_X6_save M2) (fun M3 => gd (inb (10 + x1) 952) (nm (M3.1 0 (10 + x1).toNatClampNeg) (fun v4 => gd (inb (10 + x1) 952) (nm (upM M3 0 (upd (M3.1 0) (10 + x1).toNatClampNeg x2)) (fun M5 => some (v4, M5))))))))
def f_X6_set_b22    (M : MS) (x1 : Int32) (x2 : Int32) (x3 : Int32) (y0 : Int32) : Option (Int32 × MS) := (if x3 = 0 then f_X6_set_b51 M x1 x2 1 else bnd (f_X6_most x1) (fun r1 => bnd (f_X6_in x2 y0 r1) (fun r2 => (if r2 = 0 then f_X6_set_b51 M x1 x2 2 else f_X6_set_b51 M x1 x2 0))))
def f_X6_set_b17    (M : MS) (x1 : Int32) (x2 : Int32) (x3 : Int32) : Option (Int32 × MS) := f_X6_set_b22 M x1 x2 x3 1
def f_X6_set (M : MS)  (a1 : Int32) (a2 : Int32) : Option (Int32 × MS) := bnd (f_X6_in a1 0 5) (fun r1 => (if a1 = 3 then f_X6_set_b17 M a1 a2 r1 else (if a1 = 4 then f_X6_set_b17 M a1 a2 r1 else f_X6_set_b22 M a1 a2 r1 0)))
set_option maxHeartbeats 4000000 in
set_option maxRecDepth 100000 in
theorem c_X6_set {l : Launch} {D : va_G} {cI cR : ClassId} {ad : Nat → Nat} {A : Nat → Prop} {M : MS} {M' : MS} {a1 : Int32} {a2 : Int32} {r : Int32}  (hf : f_X6_set M a1 a2 = some (r, M')) : MC l yX6_set wsX6_set 2 44 D cI cR A [.ref (ad 0), .int a1, .int a2] (mws cI ad M) (some (.int r)) (mws cI ad M') := by
  refine Met.ofW (cc := cX6_set) (maxL := 6) (ret := (some .int)) (by decide) rfl ?_
  intro p e s m args below meth c s₁ B hml hv
  obtain ⟨rfl, hw⟩ := q_start hv
  have hx := B.exec
  have hb := B.bytes
  have hr := B.returns
  have hts := atoms_spec (ws := wsX6_set) B.pre
  have hown : s.vm.findClass RX6 = some m.cls := findClass_of_methodNamed B.named
  have hlocks := B.notSynchronized
  have hiX6 : ∀ w ∈ wsX60, w ∈ wsX6_set := by decide +kernel
  have hl := lv_entry ([.ref (ad 0), .int a1, .int a2]) (n := 6) (Nat.le_of_ble_eq_true rfl)
  rw [lg_entry_eq]
  generalize (lg_sl ([.ref (ad 0), .int a1, .int a2]) ++ List.replicate (6 - (lg_sl ([.ref (ad 0), .int a1, .int a2])).length) Slot.unset).toArray = ls at hl ⊢
  have hl : lv_has ls 6 [(0, .ref (ad 0)), (1, .int a1), (2, .int a2)] := hl
  unfold f_X6_set at hf
  obtain ⟨H, eH⟩ : ∃ H, H = s.heap := ⟨_, rfl⟩
  obtain ⟨locs, eL⟩ : ∃ L : List Loc, L = [] := ⟨_, rfl⟩
  rw [← eH, ← eL] at hw ⊢
  clear eH eL
  have B51 : ∀ (M : MS) (x1 : Int32) (x2 : Int32) (y0 : Int32) (H : Heap) (locs : List Loc) (ls : Array Slot), f_X6_set_b51 M x1 x2 y0 = some (r, M') → WH D cI cR A (mws cI ad M) s H locs → lv_has ls 6 [(0, .ref (ad 0)), (1, .int x1), (2, .int x2)] → W p l e (headSpec wsX6_set ({ frames := 2, cells := 0, slots := 0, locals := 44 })).room s m ([.ref (ad 0), .int a1, .int a2] : List Value).toArray below meth c H locs 0 0 (MQ below (QV (some (.int r)) D A (mws cI ad M')) (([.ref (ad 0), .int a1, .int a2] : List Value)).toArray s 0 0 A) (F0 m 51 ls [.int y0, .ref (ad 0)]) := by
    intro M x1 x2 y0 H locs ls hf hw hl
    unfold f_X6_set_b51 at hf
    obtain ⟨r1, M2, hr2, hf⟩ := bnd2S hf
    refine q_callV (rest := []) (st1 := [.int r1]) [.int y0] ⟨hx, hb, hml, hown, hts⟩ (c_X6_holds hr2) (cwV 1 hts gX6_set_X6_holds rfl rfl rfl (by decide +kernel) ⟨Nat.le_of_ble_eq_true rfl, Nat.le_of_ble_eq_true rfl⟩) hw ma_0 rfl rfl hl.1 rfl (Nat.le_of_ble_eq_true rfl) dX6_set_51 ⟨Nat.zero_le _, Nat.zero_le _⟩ rfl (fun H locs hw => ?_)
    refine lv_if_ne (tgt := 59) hx hb dX6_set_54 (by decide) (fun hc => ?_) (fun hc => ?_)
    · have hf := iteF hf hc
      refine lv_aload_n hx hb dX6_set_59 rfl (lv_at hl 0 rfl) ?_
      obtain ⟨M3, hr3, hf⟩ := bndS hf
      refine q_callV (rest := []) (st1 := []) [] ⟨hx, hb, hml, hown, hts⟩ (c_X6_save hr3) (cwV 0 hts gX6_set_X6_save rfl rfl rfl (by decide +kernel) ⟨Nat.le_of_ble_eq_true rfl, Nat.le_of_ble_eq_true rfl⟩) hw ma_0 rfl rfl hl.1 rfl (Nat.le_of_ble_eq_true rfl) dX6_set_60 ⟨Nat.zero_le _, Nat.zero_le _⟩ rfl (fun H locs hw => ?_)
      refine lv_aload_n hx hb dX6_set_63 rfl (lv_at hl 0 rfl) ?_
      refine q_get hx hb hts hiX6 hown hw 0 ma_0 rfl 1 (by decide) (hts (.fieldLink RX6 7 "LaceRanksModel" "s" "[I") (by decide +kernel)) rfl dX6_set_64 ?_
      refine lv_bipush (v := 10) hx hb dX6_set_67 (by decide) ?_
      refine lv_iload_n hx hb dX6_set_69 rfl (lv_at hl 1 rfl) ?_
      refine lv_iadd hx hb dX6_set_70 ?_
      obtain ⟨hg, hf⟩ := gdE hf
      obtain ⟨v4, hv4, hf⟩ := nmE hf
      refine q_iald hx hb hw 1 ma_1 (inb_in hg) dX6_set_71 ?_
      refine q_is hv4 ?_
      refine lv_istore (lv' := [(5, .int v4), (0, .ref (ad 0)), (1, .int x1), (2, .int x2)]) hx hb dX6_set_72 hl (by decide) rfl (fun ls hl => ?_)
      refine lv_aload_n hx hb dX6_set_74 rfl (lv_at hl 1 rfl) ?_
      refine q_get hx hb hts hiX6 hown hw 0 ma_0 rfl 1 (by decide) (hts (.fieldLink RX6 7 "LaceRanksModel" "s" "[I") (by decide +kernel)) rfl dX6_set_75 ?_
      refine lv_bipush (v := 10) hx hb dX6_set_78 (by decide) ?_
      refine lv_iload_n hx hb dX6_set_80 rfl (lv_at hl 2 rfl) ?_
      refine lv_iadd hx hb dX6_set_81 ?_
      refine lv_iload_n hx hb dX6_set_82 rfl (lv_at hl 3 rfl) ?_
      obtain ⟨hg, hf⟩ := gdE hf
      obtain ⟨M5, hM5, hf⟩ := nmE hf
      refine q_iast hx hb hw 1 ma_1 (inb_in hg) dX6_set_83 (ms_1.trans (congrArg (fun z => (mws cI ad z)) hM5.symm)) (fun H locs hw => ?_)
      refine lv_iload hx hb dX6_set_84 (lv_at hl 0 rfl) ?_
      cases hf
      exact q_iret hx hb hr hlocks hw dX6_set_86
    · have hf := iteT hf hc
      refine lv_iconst (v := 0) hx hb dX6_set_57 (by decide) ?_
      cases hf
      exact q_iret hx hb hr hlocks hw dX6_set_58
  have B22 : ∀ (M : MS) (x1 : Int32) (x2 : Int32) (x3 : Int32) (y0 : Int32) (H : Heap) (locs : List Loc) (ls : Array Slot), f_X6_set_b22 M x1 x2 x3 y0 = some (r, M') → WH D cI cR A (mws cI ad M) s H locs → lv_has ls 6 [(0, .ref (ad 0)), (1, .int x1), (2, .int x2), (3, .int x3)] → W p l e (headSpec wsX6_set ({ frames := 2, cells := 0, slots := 0, locals := 44 })).room s m ([.ref (ad 0), .int a1, .int a2] : List Value).toArray below meth c H locs 0 0 (MQ below (QV (some (.int r)) D A (mws cI ad M')) (([.ref (ad 0), .int a1, .int a2] : List Value)).toArray s 0 0 A) (F0 m 22 ls [.int y0]) := by
    intro M x1 x2 x3 y0 H locs ls hf hw hl
    unfold f_X6_set_b22 at hf
    refine lv_istore (lv' := [(4, .int y0), (0, .ref (ad 0)), (1, .int x1), (2, .int x2), (3, .int x3)]) hx hb dX6_set_22 hl (by decide) rfl (fun ls hl => ?_)
    refine lv_aload_n hx hb dX6_set_24 rfl (lv_at hl 1 rfl) ?_
    refine lv_iload_n hx hb dX6_set_25 rfl (lv_at hl 4 rfl) ?_
    refine lv_if_ne (tgt := 33) hx hb dX6_set_26 (by decide) (fun hc => ?_) (fun hc => ?_)
    · have hf := iteF hf hc
      refine lv_iload_n hx hb dX6_set_33 rfl (lv_at hl 3 rfl) ?_
      refine lv_iload hx hb dX6_set_34 (lv_at hl 0 rfl) ?_
      refine lv_iload_n hx hb dX6_set_36 rfl (lv_at hl 2 rfl) ?_
      obtain ⟨r1, hr1, hf⟩ := bndS hf
      refine q_callS (rest := [.int y0, .int x2, .ref (ad 0)]) (st1 := [.int r1, .int y0, .int x2, .ref (ad 0)]) [.int x1] ⟨hx, hb, hml, hown, hts⟩ (c_X6_most hr1) (va_cwS 1 hts gX6_set_X6_most rfl rfl rfl (by decide +kernel) ⟨Nat.le_of_ble_eq_true rfl, Nat.le_of_ble_eq_true rfl⟩) hw rfl hl.1 rfl (Nat.le_of_ble_eq_true rfl) dX6_set_37 ⟨Nat.zero_le _, Nat.zero_le _⟩ rfl (fun H locs hw => ?_)
      obtain ⟨r2, hr2, hf⟩ := bndS hf
      refine q_callS (rest := [.ref (ad 0)]) (st1 := [.int r2, .ref (ad 0)]) [.int x2, .int y0, .int r1] ⟨hx, hb, hml, hown, hts⟩ (c_X6_in hr2) (va_cwS 3 hts gX6_set_X6_in rfl rfl rfl (by decide +kernel) ⟨Nat.le_of_ble_eq_true rfl, Nat.le_of_ble_eq_true rfl⟩) hw rfl hl.1 rfl (Nat.le_of_ble_eq_true rfl) dX6_set_40 ⟨Nat.zero_le _, Nat.zero_le _⟩ rfl (fun H locs hw => ?_)
      refine lv_if_ne (tgt := 50) hx hb dX6_set_43 (by decide) (fun hc => ?_) (fun hc => ?_)
      · have hf := iteF hf hc
        refine lv_iconst (v := 0) hx hb dX6_set_50 (by decide) ?_
        exact B51 M x1 x2 0 H locs ls hf hw (lv_sub hl [1, 2, 3] rfl)
      · have hf := iteT hf hc
        refine lv_iconst (v := 2) hx hb dX6_set_46 (by decide) ?_
        refine lv_goto (tgt := 51) hx hb dX6_set_47 (by decide) ?_
        exact B51 M x1 x2 2 H locs ls hf hw (lv_sub hl [1, 2, 3] rfl)
    · have hf := iteT hf hc
      refine lv_iconst (v := 1) hx hb dX6_set_29 (by decide) ?_
      refine lv_goto (tgt := 51) hx hb dX6_set_30 (by decide) ?_
      exact B51 M x1 x2 1 H locs ls hf hw (lv_sub hl [1, 2, 3] rfl)
  have B17 : ∀ (M : MS) (x1 : Int32) (x2 : Int32) (x3 : Int32) (H : Heap) (locs : List Loc) (ls : Array Slot), f_X6_set_b17 M x1 x2 x3 = some (r, M') → WH D cI cR A (mws cI ad M) s H locs → lv_has ls 6 [(0, .ref (ad 0)), (1, .int x1), (2, .int x2), (3, .int x3)] → W p l e (headSpec wsX6_set ({ frames := 2, cells := 0, slots := 0, locals := 44 })).room s m ([.ref (ad 0), .int a1, .int a2] : List Value).toArray below meth c H locs 0 0 (MQ below (QV (some (.int r)) D A (mws cI ad M')) (([.ref (ad 0), .int a1, .int a2] : List Value)).toArray s 0 0 A) (F0 m 17 ls []) := by
    intro M x1 x2 x3 H locs ls hf hw hl
    unfold f_X6_set_b17 at hf
    refine lv_iconst (v := 1) hx hb dX6_set_17 (by decide) ?_
    refine lv_goto (tgt := 22) hx hb dX6_set_18 (by decide) ?_
    exact B22 M x1 x2 x3 1 H locs ls hf hw (lv_sub hl [0, 1, 2, 3] rfl)
  refine lv_iload_n hx hb dX6_set_0 rfl (lv_at hl 1 rfl) ?_
  refine lv_iconst (v := 0) hx hb dX6_set_1 (by decide) ?_
  refine lv_iconst (v := 5) hx hb dX6_set_2 (by decide) ?_
  obtain ⟨r1, hr1, hf⟩ := bndS hf
  refine q_callS (rest := []) (st1 := [.int r1]) [.int a1, .int 0, .int 5] ⟨hx, hb, hml, hown, hts⟩ (c_X6_in hr1) (va_cwS 3 hts gX6_set_X6_in rfl rfl rfl (by decide +kernel) ⟨Nat.le_of_ble_eq_true rfl, Nat.le_of_ble_eq_true rfl⟩) hw rfl hl.1 rfl (Nat.le_of_ble_eq_true rfl) dX6_set_3 ⟨Nat.zero_le _, Nat.zero_le _⟩ rfl (fun H locs hw => ?_)
  refine lv_istore_n (lv' := [(3, .int r1), (0, .ref (ad 0)), (1, .int a1), (2, .int a2)]) hx hb dX6_set_6 rfl hl (by decide) rfl (fun ls hl => ?_)
  refine lv_iload_n hx hb dX6_set_7 rfl (lv_at hl 2 rfl) ?_
  refine lv_iconst (v := 3) hx hb dX6_set_8 (by decide) ?_
  refine lv_icmp_eq (tgt := 17) hx hb dX6_set_9 (by decide) (fun hc => ?_) (fun hc => ?_)
  · have hf := iteT hf hc
    exact B17 M a1 a2 r1 H locs ls hf hw (lv_sub hl [1, 2, 3, 0] rfl)
  · have hf := iteF hf hc
    refine lv_iload_n hx hb dX6_set_12 rfl (lv_at hl 2 rfl) ?_
    refine lv_iconst (v := 4) hx hb dX6_set_13 (by decide) ?_
    refine lv_icmp_ne (tgt := 21) hx hb dX6_set_14 (by decide) (fun hc => ?_) (fun hc => ?_)
    · have hf := iteF hf hc
      refine lv_iconst (v := 0) hx hb dX6_set_21 (by decide) ?_
      exact B22 M a1 a2 r1 0 H locs ls hf hw (lv_sub hl [1, 2, 3, 0] rfl)
    · have hf := iteT hf hc
      exact B17 M a1 a2 r1 H locs ls hf hw (lv_sub hl [1, 2, 3, 0] rfl)

def f_X6_append_b30    (M : MS) (x1 : Int32) (y0 : Int32) : Option (Int32 × MS) := bnd2 (f_X6_holds M y0) (fun r1 M2 => (if r1 = 0 then some (0, M2) else gd (inb (M2.1 3 3) 60) (nm (upM M2 1 (upd (M2.1 1) (M2.1 3 3).toNatClampNeg x1)) (fun M3 => nm (upMS M3 3 3 ((M3.1 3 3) + 1)) (fun M4 => some (M4.1 3 3, M4))))))
def f_X6_append (M : MS)  (a1 : Int32) : Option (Int32 × MS) := bnd (f_X6_in a1 33 126) (fun r1 => (if r1 = 0 then f_X6_append_b30 M a1 1 else (if (M.1 3 3) = 60 then f_X6_append_b30 M a1 2 else f_X6_append_b30 M a1 0)))
set_option maxHeartbeats 4000000 in
set_option maxRecDepth 100000 in
theorem c_X6_append {l : Launch} {D : va_G} {cI cR : ClassId} {ad : Nat → Nat} {A : Nat → Prop} {M : MS} {M' : MS} {a1 : Int32} {r : Int32}  (hf : f_X6_append M a1 = some (r, M')) : MC l yX6_append wsX6_append 1 22 D cI cR A [.ref (ad 0), .int a1] (mws cI ad M) (some (.int r)) (mws cI ad M') := by
  refine Met.ofW (cc := cX6_append) (maxL := 2) (ret := (some .int)) (by decide) rfl ?_
  intro p e s m args below meth c s₁ B hml hv
  obtain ⟨rfl, hw⟩ := q_start hv
  have hx := B.exec
  have hb := B.bytes
  have hr := B.returns
  have hts := atoms_spec (ws := wsX6_append) B.pre
  have hown : s.vm.findClass RX6 = some m.cls := findClass_of_methodNamed B.named
  have hlocks := B.notSynchronized
  have hiX6 : ∀ w ∈ wsX60, w ∈ wsX6_append := by decide +kernel
  have hl := lv_entry ([.ref (ad 0), .int a1]) (n := 2) (Nat.le_of_ble_eq_true rfl)
  rw [lg_entry_eq]
  generalize (lg_sl ([.ref (ad 0), .int a1]) ++ List.replicate (2 - (lg_sl ([.ref (ad 0), .int a1])).length) Slot.unset).toArray = ls at hl ⊢
  have hl : lv_has ls 2 [(0, .ref (ad 0)), (1, .int a1)] := hl
  unfold f_X6_append at hf
  obtain ⟨H, eH⟩ : ∃ H, H = s.heap := ⟨_, rfl⟩
  obtain ⟨locs, eL⟩ : ∃ L : List Loc, L = [] := ⟨_, rfl⟩
  rw [← eH, ← eL] at hw ⊢
  clear eH eL
  have B30 : ∀ (M : MS) (x1 : Int32) (y0 : Int32) (H : Heap) (locs : List Loc) (ls : Array Slot), f_X6_append_b30 M x1 y0 = some (r, M') → WH D cI cR A (mws cI ad M) s H locs → lv_has ls 2 [(0, .ref (ad 0)), (1, .int x1)] → W p l e (headSpec wsX6_append ({ frames := 1, cells := 0, slots := 0, locals := 22 })).room s m ([.ref (ad 0), .int a1] : List Value).toArray below meth c H locs 0 0 (MQ below (QV (some (.int r)) D A (mws cI ad M')) (([.ref (ad 0), .int a1] : List Value)).toArray s 0 0 A) (F0 m 30 ls [.int y0, .ref (ad 0)]) := by
    intro M x1 y0 H locs ls hf hw hl
    unfold f_X6_append_b30 at hf
    obtain ⟨r1, M2, hr2, hf⟩ := bnd2S hf
    refine q_callV (rest := []) (st1 := [.int r1]) [.int y0] ⟨hx, hb, hml, hown, hts⟩ (c_X6_holds hr2) (cwV 1 hts gX6_append_X6_holds rfl rfl rfl (by decide +kernel) ⟨Nat.le_of_ble_eq_true rfl, Nat.le_of_ble_eq_true rfl⟩) hw ma_0 rfl rfl hl.1 rfl (Nat.le_of_ble_eq_true rfl) dX6_append_30 ⟨Nat.zero_le _, Nat.zero_le _⟩ rfl (fun H locs hw => ?_)
    refine lv_if_ne (tgt := 38) hx hb dX6_append_33 (by decide) (fun hc => ?_) (fun hc => ?_)
    · have hf := iteF hf hc
      refine lv_aload_n hx hb dX6_append_38 rfl (lv_at hl 0 rfl) ?_
      refine q_get hx hb hts hiX6 hown hw 0 ma_0 rfl 4 (by decide) (hts (.fieldLink RX6 13 "LaceRanksModel" "text" "[I") (by decide +kernel)) rfl dX6_append_39 ?_
      refine lv_aload_n hx hb dX6_append_42 rfl (lv_at hl 0 rfl) ?_
      refine q_get hx hb hts hiX6 hown hw 0 ma_0 rfl 5 (by decide) (hts (.fieldLink RX6 121 "LaceRanksModel" "length" "I") (by decide +kernel)) rfl dX6_append_43 ?_
      refine lv_iload_n hx hb dX6_append_46 rfl (lv_at hl 1 rfl) ?_
      obtain ⟨hg, hf⟩ := gdE hf
      obtain ⟨M3, hM3, hf⟩ := nmE hf
      refine q_iast hx hb hw 2 ma_2 (inb_in hg) dX6_append_47 (ms_2.trans (congrArg (fun z => (mws cI ad z)) hM3.symm)) (fun H locs hw => ?_)
      refine lv_aload_n hx hb dX6_append_48 rfl (lv_at hl 0 rfl) ?_
      refine lv_dup hx hb dX6_append_49 rfl ?_
      refine q_get hx hb hts hiX6 hown hw 0 ma_0 rfl 5 (by decide) (hts (.fieldLink RX6 121 "LaceRanksModel" "length" "I") (by decide +kernel)) rfl dX6_append_50 ?_
      refine lv_iconst (v := 1) hx hb dX6_append_53 (by decide) ?_
      refine lv_iadd hx hb dX6_append_54 ?_
      obtain ⟨M4, hM4, hf⟩ := nmE hf
      refine q_put (ty := .int) hx hb hts hiX6 tyX6 tyX6_ok nmX6 hown hw 0 ma_0 rfl 5 (by decide) (hts (.fieldLink RX6 121 "LaceRanksModel" "length" "I") (by decide +kernel)) rfl (by decide +kernel) rfl rfl (Nat.le_of_ble_eq_true rfl) dX6_append_55 (ms_0_5.trans (congrArg (fun z => (mws cI ad z)) hM4.symm)) (fun H locs hw => ?_)
      refine lv_aload_n hx hb dX6_append_58 rfl (lv_at hl 0 rfl) ?_
      refine q_get hx hb hts hiX6 hown hw 0 ma_0 rfl 5 (by decide) (hts (.fieldLink RX6 121 "LaceRanksModel" "length" "I") (by decide +kernel)) rfl dX6_append_59 ?_
      cases hf
      exact q_iret hx hb hr hlocks hw dX6_append_62
    · have hf := iteT hf hc
      refine lv_iconst (v := 0) hx hb dX6_append_36 (by decide) ?_
      cases hf
      exact q_iret hx hb hr hlocks hw dX6_append_37
  refine lv_aload_n hx hb dX6_append_0 rfl (lv_at hl 0 rfl) ?_
  refine lv_iload_n hx hb dX6_append_1 rfl (lv_at hl 1 rfl) ?_
  refine lv_bipush (v := 33) hx hb dX6_append_2 (by decide) ?_
  refine lv_bipush (v := 126) hx hb dX6_append_4 (by decide) ?_
  obtain ⟨r1, hr1, hf⟩ := bndS hf
  refine q_callS (rest := [.ref (ad 0)]) (st1 := [.int r1, .ref (ad 0)]) [.int a1, .int 33, .int 126] ⟨hx, hb, hml, hown, hts⟩ (c_X6_in hr1) (va_cwS 3 hts gX6_append_X6_in rfl rfl rfl (by decide +kernel) ⟨Nat.le_of_ble_eq_true rfl, Nat.le_of_ble_eq_true rfl⟩) hw rfl hl.1 rfl (Nat.le_of_ble_eq_true rfl) dX6_append_6 ⟨Nat.zero_le _, Nat.zero_le _⟩ rfl (fun H locs hw => ?_)
  refine lv_if_ne (tgt := 16) hx hb dX6_append_9 (by decide) (fun hc => ?_) (fun hc => ?_)
  · have hf := iteF hf hc
    refine lv_aload_n hx hb dX6_append_16 rfl (lv_at hl 0 rfl) ?_
    refine q_get hx hb hts hiX6 hown hw 0 ma_0 rfl 5 (by decide) (hts (.fieldLink RX6 121 "LaceRanksModel" "length" "I") (by decide +kernel)) rfl dX6_append_17 ?_
    refine lv_bipush (v := 60) hx hb dX6_append_20 (by decide) ?_
    refine lv_icmp_ne (tgt := 29) hx hb dX6_append_22 (by decide) (fun hc => ?_) (fun hc => ?_)
    · have hf := iteF hf hc
      refine lv_iconst (v := 0) hx hb dX6_append_29 (by decide) ?_
      exact B30 M a1 0 H locs ls hf hw (lv_sub hl [0, 1] rfl)
    · have hf := iteT hf hc
      refine lv_iconst (v := 2) hx hb dX6_append_25 (by decide) ?_
      refine lv_goto (tgt := 30) hx hb dX6_append_26 (by decide) ?_
      exact B30 M a1 2 H locs ls hf hw (lv_sub hl [0, 1] rfl)
  · have hf := iteT hf hc
    refine lv_iconst (v := 1) hx hb dX6_append_12 (by decide) ?_
    refine lv_goto (tgt := 30) hx hb dX6_append_13 (by decide) ?_
    exact B30 M a1 1 H locs ls hf hw (lv_sub hl [0, 1] rfl)

def f_X6_clearBuffer (M : MS)   : Option (Int32 × MS) := nm (upMS M 3 0 0) (fun M1 => nm (upMS M1 3 3 0) (fun M2 => some (M1.1 3 3, M2)))
set_option maxHeartbeats 4000000 in
set_option maxRecDepth 100000 in
theorem c_X6_clearBuffer {l : Launch} {D : va_G} {cI cR : ClassId} {ad : Nat → Nat} {A : Nat → Prop} {M : MS} {M' : MS}  {r : Int32}  (hf : f_X6_clearBuffer M = some (r, M')) : MC l yX6_clearBuffer wsX6_clearBuffer 0 0 D cI cR A [.ref (ad 0)] (mws cI ad M) (some (.int r)) (mws cI ad M') := by
  refine Met.ofW (cc := cX6_clearBuffer) (maxL := 2) (ret := (some .int)) (by decide) rfl ?_
  intro p e s m args below meth c s₁ B hml hv
  obtain ⟨rfl, hw⟩ := q_start hv
  have hx := B.exec
  have hb := B.bytes
  have hr := B.returns
  have hts := atoms_spec (ws := wsX6_clearBuffer) B.pre
  have hown : s.vm.findClass RX6 = some m.cls := findClass_of_methodNamed B.named
  have hlocks := B.notSynchronized
  have hiX6 : ∀ w ∈ wsX60, w ∈ wsX6_clearBuffer := by decide +kernel
  have hl := lv_entry ([.ref (ad 0)]) (n := 2) (Nat.le_of_ble_eq_true rfl)
  rw [lg_entry_eq]
  generalize (lg_sl ([.ref (ad 0)]) ++ List.replicate (2 - (lg_sl ([.ref (ad 0)])).length) Slot.unset).toArray = ls at hl ⊢
  have hl : lv_has ls 2 [(0, .ref (ad 0))] := hl
  unfold f_X6_clearBuffer at hf
  obtain ⟨H, eH⟩ : ∃ H, H = s.heap := ⟨_, rfl⟩
  obtain ⟨locs, eL⟩ : ∃ L : List Loc, L = [] := ⟨_, rfl⟩
  rw [← eH, ← eL] at hw ⊢
  clear eH eL
  refine lv_aload_n hx hb dX6_clearBuffer_0 rfl (lv_at hl 0 rfl) ?_
  refine lv_iconst (v := 0) hx hb dX6_clearBuffer_1 (by decide) ?_
  obtain ⟨M1, hM1, hf⟩ := nmE hf
  refine q_put (ty := .int) hx hb hts hiX6 tyX6 tyX6_ok nmX6 hown hw 0 ma_0 rfl 0 (by decide) (hts (.fieldLink RX6 19 "LaceRanksModel" "thrown" "I") (by decide +kernel)) rfl (by decide +kernel) rfl rfl (Nat.le_of_ble_eq_true rfl) dX6_clearBuffer_2 (ms_0_0.trans (congrArg (fun z => (mws cI ad z)) hM1.symm)) (fun H locs hw => ?_)
  refine lv_aload_n hx hb dX6_clearBuffer_5 rfl (lv_at hl 0 rfl) ?_
  refine q_get hx hb hts hiX6 hown hw 0 ma_0 rfl 5 (by decide) (hts (.fieldLink RX6 121 "LaceRanksModel" "length" "I") (by decide +kernel)) rfl dX6_clearBuffer_6 ?_
  refine lv_istore_n (lv' := [(1, .int (M1.1 3 3)), (0, .ref (ad 0))]) hx hb dX6_clearBuffer_9 rfl hl (by decide) rfl (fun ls hl => ?_)
  refine lv_aload_n hx hb dX6_clearBuffer_10 rfl (lv_at hl 1 rfl) ?_
  refine lv_iconst (v := 0) hx hb dX6_clearBuffer_11 (by decide) ?_
  obtain ⟨M2, hM2, hf⟩ := nmE hf
  refine q_put (ty := .int) hx hb hts hiX6 tyX6 tyX6_ok nmX6 hown hw 0 ma_0 rfl 5 (by decide) (hts (.fieldLink RX6 121 "LaceRanksModel" "length" "I") (by decide +kernel)) rfl (by decide +kernel) rfl rfl (Nat.le_of_ble_eq_true rfl) dX6_clearBuffer_12 (ms_0_5.trans (congrArg (fun z => (mws cI ad z)) hM2.symm)) (fun H locs hw => ?_)
  refine lv_iload_n hx hb dX6_clearBuffer_15 rfl (lv_at hl 0 rfl) ?_
  cases hf
  exact q_iret hx hb hr hlocks hw dX6_clearBuffer_16
