def f_X0_welcome (K : RK)  (a1 : Int32) (a2 : Int32) (a3 : Int32) : Option (Int32 × RK) := nm (upS K 11 3 ((K 11 3) + a3)) (fun K1 => nm (upS K1 11 4 ((K1 11 4) + a2)) (fun K2 => bnd2 (f_X1_takeIn K2 a1 a2 a3) (fun r3 K4 => some (r3, K4))))
set_option maxHeartbeats 4000000 in
set_option maxRecDepth 100000 in
theorem c_X0_welcome {l : Launch} {D : va_G} {cI cR : ClassId} {ad : Nat → Nat} {A : Nat → Prop} {O : XO} {K : RK} {K' : RK} {a1 : Int32} {a2 : Int32} {a3 : Int32} {r : Int32}  (hf : f_X0_welcome K a1 a2 a3 = some (r, K')) : MC l yX0_welcome wsX0_welcome 2 46 D cI cR A [.ref (ad 1), .int a1, .int a2, .int a3] (xws cI cR ad O K) (some (.int r)) (xws cI cR ad O K') := by
  refine Met.ofW (cc := cX0_welcome) (maxL := 4) (ret := (some .int)) (by decide) rfl ?_
  intro p e s m args below meth c s₁ B hml hv
  obtain ⟨rfl, hw⟩ := q_start hv
  have hx := B.exec
  have hb := B.bytes
  have hr := B.returns
  have hts := atoms_spec (ws := wsX0_welcome) B.pre
  have hown : s.vm.findClass RX0 = some m.cls := findClass_of_methodNamed B.named
  have hlocks := B.notSynchronized
  have hiX0 : ∀ w ∈ wsX00, w ∈ wsX0_welcome := by decide +kernel
  have hl := lv_entry ([.ref (ad 1), .int a1, .int a2, .int a3]) (n := 4) (Nat.le_of_ble_eq_true rfl)
  rw [lg_entry_eq]
  generalize (lg_sl ([.ref (ad 1), .int a1, .int a2, .int a3]) ++ List.replicate (4 - (lg_sl ([.ref (ad 1), .int a1, .int a2, .int a3])).length) Slot.unset).toArray = ls at hl ⊢
  have hl : lv_has ls 4 [(0, .ref (ad 1)), (1, .int a1), (2, .int a2), (3, .int a3)] := hl
  unfold f_X0_welcome at hf
  obtain ⟨H, eH⟩ : ∃ H, H = s.heap := ⟨_, rfl⟩
  obtain ⟨locs, eL⟩ : ∃ L : List Loc, L = [] := ⟨_, rfl⟩
  rw [← eH, ← eL] at hw ⊢
  clear eH eL
  refine lv_aload_n hx hb dX0_welcome_0 rfl (lv_at hl 0 rfl) ?_
  refine lv_dup hx hb dX0_welcome_1 rfl ?_
  refine q_get hx hb hts hiX0 hown hw 1 xa_1 rfl 6 (by decide) (hts (.fieldLink RX0 43 "LaceRanks$Carnival" "ribbonsTold" "I") (by decide +kernel)) rfl dX0_welcome_2 ?_
  refine lv_iload_n hx hb dX0_welcome_5 rfl (lv_at hl 3 rfl) ?_
  refine lv_iadd hx hb dX0_welcome_6 ?_
  obtain ⟨K1, hK1, hf⟩ := nmE hf
  refine q_put (ty := .int) hx hb hts hiX0 tyX0 tyX0_ok nmX0 hown hw 1 xa_1 rfl 6 (by decide) (hts (.fieldLink RX0 43 "LaceRanks$Carnival" "ribbonsTold" "I") (by decide +kernel)) rfl (by decide +kernel) rfl rfl (Nat.le_of_ble_eq_true rfl) dX0_welcome_7 (xs_1_6.trans (congrArg (fun z => (xws cI cR ad O z)) hK1.symm)) (fun H locs hw => ?_)
  refine lv_aload_n hx hb dX0_welcome_10 rfl (lv_at hl 0 rfl) ?_
  refine lv_dup hx hb dX0_welcome_11 rfl ?_
  refine q_get hx hb hts hiX0 hown hw 1 xa_1 rfl 7 (by decide) (hts (.fieldLink RX0 46 "LaceRanks$Carnival" "laceTold" "I") (by decide +kernel)) rfl dX0_welcome_12 ?_
  refine lv_iload_n hx hb dX0_welcome_15 rfl (lv_at hl 2 rfl) ?_
  refine lv_iadd hx hb dX0_welcome_16 ?_
  obtain ⟨K2, hK2, hf⟩ := nmE hf
  refine q_put (ty := .int) hx hb hts hiX0 tyX0 tyX0_ok nmX0 hown hw 1 xa_1 rfl 7 (by decide) (hts (.fieldLink RX0 46 "LaceRanks$Carnival" "laceTold" "I") (by decide +kernel)) rfl (by decide +kernel) rfl rfl (Nat.le_of_ble_eq_true rfl) dX0_welcome_17 (xs_1_7.trans (congrArg (fun z => (xws cI cR ad O z)) hK2.symm)) (fun H locs hw => ?_)
  refine lv_aload_n hx hb dX0_welcome_20 rfl (lv_at hl 0 rfl) ?_
  refine q_get hx hb hts hiX0 hown hw 1 xa_1 rfl 0 (by decide) (hts (.fieldLink RX0 12 "LaceRanks$Carnival" "guests" "LLaceRanks$Guests;") (by decide +kernel)) rfl dX0_welcome_21 ?_
  refine lv_iload_n hx hb dX0_welcome_24 rfl (lv_at hl 1 rfl) ?_
  refine lv_iload_n hx hb dX0_welcome_25 rfl (lv_at hl 2 rfl) ?_
  refine lv_iload_n hx hb dX0_welcome_26 rfl (lv_at hl 3 rfl) ?_
  obtain ⟨r3, K4, hr4, hf⟩ := bnd2S hf
  refine q_callVN (rest := []) (st1 := [.int r3]) [.int a1, .int a2, .int a3] ⟨hx, hb, hml, hown, hts⟩ (c_X1_takeIn hr4) ⟨va_cnB 3 hts gX0_welcome_X1_takeIn_n49 rfl rfl rfl (nw_X0_49 hw.2.2.2.2) (hts (.initialized RX1) (by decide +kernel)) (by decide +kernel) ⟨Nat.le_of_ble_eq_true rfl, Nat.le_of_ble_eq_true rfl⟩, (hts (.instanceMethod yX1_takeIn) (by decide +kernel)), (hts (.selects RX1 yX1_takeIn yX1_takeIn) (by decide +kernel))⟩ hw xa_2 rfl rfl hl.1 rfl (Nat.le_of_ble_eq_true rfl) dX0_welcome_27 ⟨Nat.zero_le _, Nat.zero_le _⟩ rfl (fun H locs hw => ?_)
  cases hf
  exact q_iret hx hb hr hlocks hw dX0_welcome_30

def f_X0_canGo (K : RK)  (a1 : Int32) : Option Int32 := bnd (f_X1_wornCoat K a1) (fun r1 => (if r1 = a1 then bnd (f_X1_isIn K a1) (fun r2 => (if r2 = 0 then bnd (f_X3_gateOf K a1) (fun r3 => (if r3 = (-1) then some 1 else some 0)) else some 0)) else some 0))
set_option maxHeartbeats 4000000 in
set_option maxRecDepth 100000 in
theorem c_X0_canGo {l : Launch} {D : va_G} {cI cR : ClassId} {ad : Nat → Nat} {A : Nat → Prop} {O : XO} {K : RK}  {a1 : Int32} {r : Int32}  (hf : f_X0_canGo K a1 = some r) : MC l yX0_canGo wsX0_canGo 3 67 D cI cR A [.ref (ad 1), .int a1] (xws cI cR ad O K) (some (.int r)) (xws cI cR ad O K) := by
  refine Met.ofW (cc := cX0_canGo) (maxL := 2) (ret := (some .boolean)) (by decide) rfl ?_
  intro p e s m args below meth c s₁ B hml hv
  obtain ⟨rfl, hw⟩ := q_start hv
  have hx := B.exec
  have hb := B.bytes
  have hr := B.returns
  have hts := atoms_spec (ws := wsX0_canGo) B.pre
  have hown : s.vm.findClass RX0 = some m.cls := findClass_of_methodNamed B.named
  have hlocks := B.notSynchronized
  have hiX0 : ∀ w ∈ wsX00, w ∈ wsX0_canGo := by decide +kernel
  have hl := lv_entry ([.ref (ad 1), .int a1]) (n := 2) (Nat.le_of_ble_eq_true rfl)
  rw [lg_entry_eq]
  generalize (lg_sl ([.ref (ad 1), .int a1]) ++ List.replicate (2 - (lg_sl ([.ref (ad 1), .int a1])).length) Slot.unset).toArray = ls at hl ⊢
  have hl : lv_has ls 2 [(0, .ref (ad 1)), (1, .int a1)] := hl
  unfold f_X0_canGo at hf
  obtain ⟨H, eH⟩ : ∃ H, H = s.heap := ⟨_, rfl⟩
  obtain ⟨locs, eL⟩ : ∃ L : List Loc, L = [] := ⟨_, rfl⟩
  rw [← eH, ← eL] at hw ⊢
  clear eH eL
  refine lv_aload_n hx hb dX0_canGo_0 rfl (lv_at hl 0 rfl) ?_
  refine q_get hx hb hts hiX0 hown hw 1 xa_1 rfl 0 (by decide) (hts (.fieldLink RX0 12 "LaceRanks$Carnival" "guests" "LLaceRanks$Guests;") (by decide +kernel)) rfl dX0_canGo_1 ?_
  refine lv_iload_n hx hb dX0_canGo_4 rfl (lv_at hl 1 rfl) ?_
  obtain ⟨r1, hr1, hf⟩ := bndS hf
  refine q_callVN (rest := []) (st1 := [.int r1]) [.int a1] ⟨hx, hb, hml, hown, hts⟩ (c_X1_wornCoat hr1) ⟨va_cnB 1 hts gX0_canGo_X1_wornCoat_n53 rfl rfl rfl (nw_X0_53 hw.2.2.2.2) (hts (.initialized RX1) (by decide +kernel)) (by decide +kernel) ⟨Nat.le_of_ble_eq_true rfl, Nat.le_of_ble_eq_true rfl⟩, (hts (.instanceMethod yX1_wornCoat) (by decide +kernel)), (hts (.selects RX1 yX1_wornCoat yX1_wornCoat) (by decide +kernel))⟩ hw xa_2 rfl rfl hl.1 rfl (Nat.le_of_ble_eq_true rfl) dX0_canGo_5 ⟨Nat.zero_le _, Nat.zero_le _⟩ rfl (fun H locs hw => ?_)
  refine lv_iload_n hx hb dX0_canGo_8 rfl (lv_at hl 1 rfl) ?_
  refine lv_icmp_ne (tgt := 39) hx hb dX0_canGo_9 (by decide) (fun hc => ?_) (fun hc => ?_)
  · have hf := iteF hf hc
    refine lv_iconst (v := 0) hx hb dX0_canGo_39 (by decide) ?_
    cases hf
    exact q_zret hx hb hr nb_0 hlocks hw dX0_canGo_40
  · have hf := iteT hf hc
    refine lv_aload_n hx hb dX0_canGo_12 rfl (lv_at hl 0 rfl) ?_
    refine q_get hx hb hts hiX0 hown hw 1 xa_1 rfl 0 (by decide) (hts (.fieldLink RX0 12 "LaceRanks$Carnival" "guests" "LLaceRanks$Guests;") (by decide +kernel)) rfl dX0_canGo_13 ?_
    refine lv_iload_n hx hb dX0_canGo_16 rfl (lv_at hl 1 rfl) ?_
    obtain ⟨r2, hr2, hf⟩ := bndS hf
    refine q_callVN (rest := []) (st1 := [.int r2]) [.int a1] ⟨hx, hb, hml, hown, hts⟩ (c_X1_isIn hr2) ⟨va_cnB 1 hts gX0_canGo_X1_isIn_n57 rfl rfl rfl (nw_X0_57 hw.2.2.2.2) (hts (.initialized RX1) (by decide +kernel)) (by decide +kernel) ⟨Nat.le_of_ble_eq_true rfl, Nat.le_of_ble_eq_true rfl⟩, (hts (.instanceMethod yX1_isIn) (by decide +kernel)), (hts (.selects RX1 yX1_isIn yX1_isIn) (by decide +kernel))⟩ hw xa_2 rfl rfl hl.1 rfl (Nat.le_of_ble_eq_true rfl) dX0_canGo_17 ⟨Nat.zero_le _, Nat.zero_le _⟩ rfl (fun H locs hw => ?_)
    refine lv_if_ne (tgt := 39) hx hb dX0_canGo_20 (by decide) (fun hc => ?_) (fun hc => ?_)
    · have hf := iteF hf hc
      refine lv_iconst (v := 0) hx hb dX0_canGo_39 (by decide) ?_
      cases hf
      exact q_zret hx hb hr nb_0 hlocks hw dX0_canGo_40
    · have hf := iteT hf hc
      refine lv_aload_n hx hb dX0_canGo_23 rfl (lv_at hl 0 rfl) ?_
      refine q_get hx hb hts hiX0 hown hw 1 xa_1 rfl 1 (by decide) (hts (.fieldLink RX0 21 "LaceRanks$Carnival" "lines" "LLaceRanks$Lines;") (by decide +kernel)) rfl dX0_canGo_24 ?_
      refine lv_iload_n hx hb dX0_canGo_27 rfl (lv_at hl 1 rfl) ?_
      obtain ⟨r3, hr3, hf⟩ := bndS hf
      refine q_callVN (rest := []) (st1 := [.int r3]) [.int a1] ⟨hx, hb, hml, hown, hts⟩ (c_X3_gateOf hr3) ⟨va_cnB 1 hts gX0_canGo_X3_gateOf_n61 rfl rfl rfl (nw_X0_61 hw.2.2.2.2) (hts (.initialized RX3) (by decide +kernel)) (by decide +kernel) ⟨Nat.le_of_ble_eq_true rfl, Nat.le_of_ble_eq_true rfl⟩, (hts (.instanceMethod yX3_gateOf) (by decide +kernel)), (hts (.selects RX3 yX3_gateOf yX3_gateOf) (by decide +kernel))⟩ hw xa_11 rfl rfl hl.1 rfl (Nat.le_of_ble_eq_true rfl) dX0_canGo_28 ⟨Nat.zero_le _, Nat.zero_le _⟩ rfl (fun H locs hw => ?_)
      refine lv_iconst (v := (-1)) hx hb dX0_canGo_31 (by decide) ?_
      refine lv_icmp_ne (tgt := 39) hx hb dX0_canGo_32 (by decide) (fun hc => ?_) (fun hc => ?_)
      · have hf := iteF hf hc
        refine lv_iconst (v := 0) hx hb dX0_canGo_39 (by decide) ?_
        cases hf
        exact q_zret hx hb hr nb_0 hlocks hw dX0_canGo_40
      · have hf := iteT hf hc
        refine lv_iconst (v := 1) hx hb dX0_canGo_35 (by decide) ?_
        refine lv_goto (tgt := 40) hx hb dX0_canGo_36 (by decide) ?_
        cases hf
        exact q_zret hx hb hr nb_1 hlocks hw dX0_canGo_40

def f_X0_letGo (K : RK)  (a1 : Int32) : Option (Int32 × RK) := nm (at_ 10 (K 2) a1) (fun r1 => nm (at_ 10 (K 1) a1) (fun r2 => nm (upS K 11 3 ((K 11 3) - r2)) (fun K3 => nm (at_ 10 (K3 3) a1) (fun r4 => nm (upS K3 11 4 ((K3 11 4) - r4)) (fun K5 => bnd (f_X1_takeOut K5 a1) (fun K6 => bnd (f_X3_renumberWithout K6 a1) (fun K7 => some (r1, K7))))))))
set_option maxHeartbeats 4000000 in
set_option maxRecDepth 100000 in
theorem c_X0_letGo {l : Launch} {D : va_G} {cI cR : ClassId} {ad : Nat → Nat} {A : Nat → Prop} {O : XO} {K : RK} {K' : RK} {a1 : Int32} {r : Int32}  (hf : f_X0_letGo K a1 = some (r, K')) : MC l yX0_letGo wsX0_letGo 3 67 D cI cR A [.ref (ad 1), .int a1] (xws cI cR ad O K) (some (.int r)) (xws cI cR ad O K') := by
  refine Met.ofW (cc := cX0_letGo) (maxL := 3) (ret := (some .int)) (by decide) rfl ?_
  intro p e s m args below meth c s₁ B hml hv
  obtain ⟨rfl, hw⟩ := q_start hv
  have hx := B.exec
  have hb := B.bytes
  have hr := B.returns
  have hts := atoms_spec (ws := wsX0_letGo) B.pre
  have hown : s.vm.findClass RX0 = some m.cls := findClass_of_methodNamed B.named
  have hlocks := B.notSynchronized
  have hiX0 : ∀ w ∈ wsX00, w ∈ wsX0_letGo := by decide +kernel
  have hiX1 : ∀ w ∈ wsX10, w ∈ wsX0_letGo := by decide +kernel
  have hl := lv_entry ([.ref (ad 1), .int a1]) (n := 3) (Nat.le_of_ble_eq_true rfl)
  rw [lg_entry_eq]
  generalize (lg_sl ([.ref (ad 1), .int a1]) ++ List.replicate (3 - (lg_sl ([.ref (ad 1), .int a1])).length) Slot.unset).toArray = ls at hl ⊢
  have hl : lv_has ls 3 [(0, .ref (ad 1)), (1, .int a1)] := hl
  unfold f_X0_letGo at hf
  obtain ⟨H, eH⟩ : ∃ H, H = s.heap := ⟨_, rfl⟩
  obtain ⟨locs, eL⟩ : ∃ L : List Loc, L = [] := ⟨_, rfl⟩
  rw [← eH, ← eL] at hw ⊢
  clear eH eL
  refine lv_aload_n hx hb dX0_letGo_0 rfl (lv_at hl 0 rfl) ?_
  refine q_get hx hb hts hiX0 hown hw 1 xa_1 rfl 0 (by decide) (hts (.fieldLink RX0 12 "LaceRanks$Carnival" "guests" "LLaceRanks$Guests;") (by decide +kernel)) rfl dX0_letGo_1 ?_
  refine q_getN hx hb hts hiX1 hown hw 2 xa_2 rfl 2 (by decide) (nw_X0_64 hw.2.2.2.2) rfl dX0_letGo_4 ?_
  refine lv_iload_n hx hb dX0_letGo_7 rfl (lv_at hl 1 rfl) ?_
  obtain ⟨r1, hr1, hf⟩ := nmE hf
  refine q_callSN (rest := []) (st1 := [.int r1]) [.ref (ad 5), .int a1] ⟨hx, hb, hml, hown, hts⟩ (c_X5_at (q0 := 5) xa_5 hr1) ⟨va_cnB 2 hts gX0_letGo_X5_at_n67 rfl rfl rfl (nw_X0_67 hw.2.2.2.2) (hts (.initialized RX5) (by decide +kernel)) (by decide +kernel) ⟨Nat.le_of_ble_eq_true rfl, Nat.le_of_ble_eq_true rfl⟩, (hts (.static yX5_at) (by decide +kernel)), trivial⟩ hw rfl hl.1 rfl (Nat.le_of_ble_eq_true rfl) dX0_letGo_8 ⟨Nat.zero_le _, Nat.zero_le _⟩ rfl (fun H locs hw => ?_)
  refine lv_istore_n (lv' := [(2, .int r1), (0, .ref (ad 1)), (1, .int a1)]) hx hb dX0_letGo_11 rfl hl (by decide) rfl (fun ls hl => ?_)
  refine lv_aload_n hx hb dX0_letGo_12 rfl (lv_at hl 1 rfl) ?_
  refine lv_dup hx hb dX0_letGo_13 rfl ?_
  refine q_get hx hb hts hiX0 hown hw 1 xa_1 rfl 6 (by decide) (hts (.fieldLink RX0 43 "LaceRanks$Carnival" "ribbonsTold" "I") (by decide +kernel)) rfl dX0_letGo_14 ?_
  refine lv_aload_n hx hb dX0_letGo_17 rfl (lv_at hl 1 rfl) ?_
  refine q_get hx hb hts hiX0 hown hw 1 xa_1 rfl 0 (by decide) (hts (.fieldLink RX0 12 "LaceRanks$Carnival" "guests" "LLaceRanks$Guests;") (by decide +kernel)) rfl dX0_letGo_18 ?_
  refine q_getN hx hb hts hiX1 hown hw 2 xa_2 rfl 1 (by decide) (nw_X0_71 hw.2.2.2.2) rfl dX0_letGo_21 ?_
  refine lv_iload_n hx hb dX0_letGo_24 rfl (lv_at hl 2 rfl) ?_
  obtain ⟨r2, hr2, hf⟩ := nmE hf
  refine q_callSN (rest := [.int (K 11 3), .ref (ad 1)]) (st1 := [.int r2, .int (K 11 3), .ref (ad 1)]) [.ref (ad 4), .int a1] ⟨hx, hb, hml, hown, hts⟩ (c_X5_at (q0 := 4) xa_4 hr2) ⟨va_cnB 2 hts gX0_letGo_X5_at_n67 rfl rfl rfl (nw_X0_67 hw.2.2.2.2) (hts (.initialized RX5) (by decide +kernel)) (by decide +kernel) ⟨Nat.le_of_ble_eq_true rfl, Nat.le_of_ble_eq_true rfl⟩, (hts (.static yX5_at) (by decide +kernel)), trivial⟩ hw rfl hl.1 rfl (Nat.le_of_ble_eq_true rfl) dX0_letGo_25 ⟨Nat.zero_le _, Nat.zero_le _⟩ rfl (fun H locs hw => ?_)
  refine lv_isub hx hb dX0_letGo_28 ?_
  obtain ⟨K3, hK3, hf⟩ := nmE hf
  refine q_put (ty := .int) hx hb hts hiX0 tyX0 tyX0_ok nmX0 hown hw 1 xa_1 rfl 6 (by decide) (hts (.fieldLink RX0 43 "LaceRanks$Carnival" "ribbonsTold" "I") (by decide +kernel)) rfl (by decide +kernel) rfl rfl (Nat.le_of_ble_eq_true rfl) dX0_letGo_29 (xs_1_6.trans (congrArg (fun z => (xws cI cR ad O z)) hK3.symm)) (fun H locs hw => ?_)
  refine lv_aload_n hx hb dX0_letGo_32 rfl (lv_at hl 1 rfl) ?_
  refine lv_dup hx hb dX0_letGo_33 rfl ?_
  refine q_get hx hb hts hiX0 hown hw 1 xa_1 rfl 7 (by decide) (hts (.fieldLink RX0 46 "LaceRanks$Carnival" "laceTold" "I") (by decide +kernel)) rfl dX0_letGo_34 ?_
  refine lv_aload_n hx hb dX0_letGo_37 rfl (lv_at hl 1 rfl) ?_
  refine q_get hx hb hts hiX0 hown hw 1 xa_1 rfl 0 (by decide) (hts (.fieldLink RX0 12 "LaceRanks$Carnival" "guests" "LLaceRanks$Guests;") (by decide +kernel)) rfl dX0_letGo_38 ?_
  refine q_getN hx hb hts hiX1 hown hw 2 xa_2 rfl 3 (by decide) (nw_X0_74 hw.2.2.2.2) rfl dX0_letGo_41 ?_
  refine lv_iload_n hx hb dX0_letGo_44 rfl (lv_at hl 2 rfl) ?_
  obtain ⟨r4, hr4, hf⟩ := nmE hf
  refine q_callSN (rest := [.int (K3 11 4), .ref (ad 1)]) (st1 := [.int r4, .int (K3 11 4), .ref (ad 1)]) [.ref (ad 6), .int a1] ⟨hx, hb, hml, hown, hts⟩ (c_X5_at (q0 := 6) xa_6 hr4) ⟨va_cnB 2 hts gX0_letGo_X5_at_n67 rfl rfl rfl (nw_X0_67 hw.2.2.2.2) (hts (.initialized RX5) (by decide +kernel)) (by decide +kernel) ⟨Nat.le_of_ble_eq_true rfl, Nat.le_of_ble_eq_true rfl⟩, (hts (.static yX5_at) (by decide +kernel)), trivial⟩ hw rfl hl.1 rfl (Nat.le_of_ble_eq_true rfl) dX0_letGo_45 ⟨Nat.zero_le _, Nat.zero_le _⟩ rfl (fun H locs hw => ?_)
  refine lv_isub hx hb dX0_letGo_48 ?_
  obtain ⟨K5, hK5, hf⟩ := nmE hf
  refine q_put (ty := .int) hx hb hts hiX0 tyX0 tyX0_ok nmX0 hown hw 1 xa_1 rfl 7 (by decide) (hts (.fieldLink RX0 46 "LaceRanks$Carnival" "laceTold" "I") (by decide +kernel)) rfl (by decide +kernel) rfl rfl (Nat.le_of_ble_eq_true rfl) dX0_letGo_49 (xs_1_7.trans (congrArg (fun z => (xws cI cR ad O z)) hK5.symm)) (fun H locs hw => ?_)
  refine lv_aload_n hx hb dX0_letGo_52 rfl (lv_at hl 1 rfl) ?_
  refine q_get hx hb hts hiX0 hown hw 1 xa_1 rfl 0 (by decide) (hts (.fieldLink RX0 12 "LaceRanks$Carnival" "guests" "LLaceRanks$Guests;") (by decide +kernel)) rfl dX0_letGo_53 ?_
  refine lv_iload_n hx hb dX0_letGo_56 rfl (lv_at hl 2 rfl) ?_
  obtain ⟨K6, hr6, hf⟩ := bndS hf
  refine q_callVN (rest := []) (st1 := []) [.int a1] ⟨hx, hb, hml, hown, hts⟩ (c_X1_takeOut hr6) ⟨va_cnB 1 hts gX0_letGo_X1_takeOut_n77 rfl rfl rfl (nw_X0_77 hw.2.2.2.2) (hts (.initialized RX1) (by decide +kernel)) (by decide +kernel) ⟨Nat.le_of_ble_eq_true rfl, Nat.le_of_ble_eq_true rfl⟩, (hts (.instanceMethod yX1_takeOut) (by decide +kernel)), (hts (.selects RX1 yX1_takeOut yX1_takeOut) (by decide +kernel))⟩ hw xa_2 rfl rfl hl.1 rfl (Nat.le_of_ble_eq_true rfl) dX0_letGo_57 ⟨Nat.zero_le _, Nat.zero_le _⟩ rfl (fun H locs hw => ?_)
  refine lv_aload_n hx hb dX0_letGo_60 rfl (lv_at hl 1 rfl) ?_
  refine q_get hx hb hts hiX0 hown hw 1 xa_1 rfl 1 (by decide) (hts (.fieldLink RX0 21 "LaceRanks$Carnival" "lines" "LLaceRanks$Lines;") (by decide +kernel)) rfl dX0_letGo_61 ?_
  refine lv_iload_n hx hb dX0_letGo_64 rfl (lv_at hl 2 rfl) ?_
  obtain ⟨K7, hr7, hf⟩ := bndS hf
  refine q_callVN (rest := []) (st1 := []) [.int a1] ⟨hx, hb, hml, hown, hts⟩ (c_X3_renumberWithout hr7) ⟨va_cnB 1 hts gX0_letGo_X3_renumberWithout_n81 rfl rfl rfl (nw_X0_81 hw.2.2.2.2) (hts (.initialized RX3) (by decide +kernel)) (by decide +kernel) ⟨Nat.le_of_ble_eq_true rfl, Nat.le_of_ble_eq_true rfl⟩, (hts (.instanceMethod yX3_renumberWithout) (by decide +kernel)), (hts (.selects RX3 yX3_renumberWithout yX3_renumberWithout) (by decide +kernel))⟩ hw xa_11 rfl rfl hl.1 rfl (Nat.le_of_ble_eq_true rfl) dX0_letGo_65 ⟨Nat.zero_le _, Nat.zero_le _⟩ rfl (fun H locs hw => ?_)
  refine lv_iload_n hx hb dX0_letGo_68 rfl (lv_at hl 0 rfl) ?_
  cases hf
  exact q_iret hx hb hr hlocks hw dX0_letGo_69

def f_X0_giveWages (K : RK)  (a1 : Int32) (a2 : Int32) : Option (Int32 × RK) := nm (at_ 10 (K 1) a1) (fun r1 => nm (imin (r1 + a2) 999) (fun r2 => nm (upR K 1 (put_ 10 (K 1) a1 r2)) (fun K3 => nm (upS K3 11 3 ((K3 11 3) + (r2 - r1))) (fun K4 => some (r2, K4)))))
set_option maxHeartbeats 4000000 in
set_option maxRecDepth 100000 in
theorem c_X0_giveWages {l : Launch} {D : va_G} {cI cR : ClassId} {ad : Nat → Nat} {A : Nat → Prop} {O : XO} {K : RK} {K' : RK} {a1 : Int32} {a2 : Int32} {r : Int32}  (hf : f_X0_giveWages K a1 a2 = some (r, K')) : MC l yX0_giveWages wsX0_giveWages 1 22 D cI cR A [.ref (ad 1), .int a1, .int a2] (xws cI cR ad O K) (some (.int r)) (xws cI cR ad O K') := by
  refine Met.ofW (cc := cX0_giveWages) (maxL := 5) (ret := (some .int)) (by decide) rfl ?_
  intro p e s m args below meth c s₁ B hml hv
  obtain ⟨rfl, hw⟩ := q_start hv
  have hx := B.exec
  have hb := B.bytes
  have hr := B.returns
  have hts := atoms_spec (ws := wsX0_giveWages) B.pre
  have hown : s.vm.findClass RX0 = some m.cls := findClass_of_methodNamed B.named
  have hlocks := B.notSynchronized
  have hiX0 : ∀ w ∈ wsX00, w ∈ wsX0_giveWages := by decide +kernel
  have hiX1 : ∀ w ∈ wsX10, w ∈ wsX0_giveWages := by decide +kernel
  have hl := lv_entry ([.ref (ad 1), .int a1, .int a2]) (n := 5) (Nat.le_of_ble_eq_true rfl)
  rw [lg_entry_eq]
  generalize (lg_sl ([.ref (ad 1), .int a1, .int a2]) ++ List.replicate (5 - (lg_sl ([.ref (ad 1), .int a1, .int a2])).length) Slot.unset).toArray = ls at hl ⊢
  have hl : lv_has ls 5 [(0, .ref (ad 1)), (1, .int a1), (2, .int a2)] := hl
  unfold f_X0_giveWages at hf
  obtain ⟨H, eH⟩ : ∃ H, H = s.heap := ⟨_, rfl⟩
  obtain ⟨locs, eL⟩ : ∃ L : List Loc, L = [] := ⟨_, rfl⟩
  rw [← eH, ← eL] at hw ⊢
  clear eH eL
  refine lv_aload_n hx hb dX0_giveWages_0 rfl (lv_at hl 0 rfl) ?_
  refine q_get hx hb hts hiX0 hown hw 1 xa_1 rfl 0 (by decide) (hts (.fieldLink RX0 12 "LaceRanks$Carnival" "guests" "LLaceRanks$Guests;") (by decide +kernel)) rfl dX0_giveWages_1 ?_
  refine q_getN hx hb hts hiX1 hown hw 2 xa_2 rfl 1 (by decide) (nw_X0_71 hw.2.2.2.2) rfl dX0_giveWages_4 ?_
  refine lv_iload_n hx hb dX0_giveWages_7 rfl (lv_at hl 1 rfl) ?_
  obtain ⟨r1, hr1, hf⟩ := nmE hf
  refine q_callSN (rest := []) (st1 := [.int r1]) [.ref (ad 4), .int a1] ⟨hx, hb, hml, hown, hts⟩ (c_X5_at (q0 := 4) xa_4 hr1) ⟨va_cnB 2 hts gX0_giveWages_X5_at_n67 rfl rfl rfl (nw_X0_67 hw.2.2.2.2) (hts (.initialized RX5) (by decide +kernel)) (by decide +kernel) ⟨Nat.le_of_ble_eq_true rfl, Nat.le_of_ble_eq_true rfl⟩, (hts (.static yX5_at) (by decide +kernel)), trivial⟩ hw rfl hl.1 rfl (Nat.le_of_ble_eq_true rfl) dX0_giveWages_8 ⟨Nat.zero_le _, Nat.zero_le _⟩ rfl (fun H locs hw => ?_)
  refine lv_istore_n (lv' := [(3, .int r1), (0, .ref (ad 1)), (1, .int a1), (2, .int a2)]) hx hb dX0_giveWages_11 rfl hl (by decide) rfl (fun ls hl => ?_)
  refine lv_iload_n hx hb dX0_giveWages_12 rfl (lv_at hl 0 rfl) ?_
  refine lv_iload_n hx hb dX0_giveWages_13 rfl (lv_at hl 3 rfl) ?_
  refine lv_iadd hx hb dX0_giveWages_14 ?_
  refine lv_sipush (v := 999) hx hb dX0_giveWages_15 (by decide) ?_
  obtain ⟨r2, hr2, hf⟩ := nmE hf
  refine va_mmin hx hb (hml.trans hl.1.symm) hown (hts (.methodLink RX0 84 Lib.Math.min.name) (by decide +kernel)) (hts (.static Lib.Math.min.name) (by decide +kernel)) (hts (.initialized "java/lang/Math") (by decide +kernel)) (hts (.code Lib.Math.min.name Lib.Math.min.code 2 (some .int)) (by decide +kernel)) (Nat.le_of_ble_eq_true rfl) (Nat.le_of_ble_eq_true rfl) (Nat.le_of_ble_eq_true rfl) (Nat.le_of_ble_eq_true rfl) dX0_giveWages_18 ?_
  refine q_is hr2 ?_
  refine lv_istore (lv' := [(4, .int r2), (3, .int r1), (0, .ref (ad 1)), (1, .int a1), (2, .int a2)]) hx hb dX0_giveWages_21 hl (by decide) rfl (fun ls hl => ?_)
  refine lv_aload_n hx hb dX0_giveWages_23 rfl (lv_at hl 2 rfl) ?_
  refine q_get hx hb hts hiX0 hown hw 1 xa_1 rfl 0 (by decide) (hts (.fieldLink RX0 12 "LaceRanks$Carnival" "guests" "LLaceRanks$Guests;") (by decide +kernel)) rfl dX0_giveWages_24 ?_
  refine q_getN hx hb hts hiX1 hown hw 2 xa_2 rfl 1 (by decide) (nw_X0_71 hw.2.2.2.2) rfl dX0_giveWages_27 ?_
  refine lv_iload_n hx hb dX0_giveWages_30 rfl (lv_at hl 3 rfl) ?_
  refine lv_iload hx hb dX0_giveWages_31 (lv_at hl 0 rfl) ?_
  obtain ⟨K3, hK3, hf⟩ := nmE hf
  refine q_callSN (rest := []) (st1 := []) [.ref (ad 4), .int a1, .int r2] ⟨hx, hb, hml, hown, hts⟩ (c_X5_put (q0 := 4) xa_4 (xs_4.trans (congrArg (fun z => (xws cI cR ad O z)) hK3.symm))) ⟨va_cnB 3 hts gX0_giveWages_X5_put_n90 rfl rfl rfl (nw_X0_90 hw.2.2.2.2) (hts (.initialized RX5) (by decide +kernel)) (by decide +kernel) ⟨Nat.le_of_ble_eq_true rfl, Nat.le_of_ble_eq_true rfl⟩, (hts (.static yX5_put) (by decide +kernel)), trivial⟩ hw rfl hl.1 rfl (Nat.le_of_ble_eq_true rfl) dX0_giveWages_33 ⟨Nat.zero_le _, Nat.zero_le _⟩ rfl (fun H locs hw => ?_)
  refine lv_aload_n hx hb dX0_giveWages_36 rfl (lv_at hl 2 rfl) ?_
  refine lv_dup hx hb dX0_giveWages_37 rfl ?_
  refine q_get hx hb hts hiX0 hown hw 1 xa_1 rfl 6 (by decide) (hts (.fieldLink RX0 43 "LaceRanks$Carnival" "ribbonsTold" "I") (by decide +kernel)) rfl dX0_giveWages_38 ?_
  refine lv_iload hx hb dX0_giveWages_41 (lv_at hl 0 rfl) ?_
  refine lv_iload_n hx hb dX0_giveWages_43 rfl (lv_at hl 1 rfl) ?_
  refine lv_isub hx hb dX0_giveWages_44 ?_
  refine lv_iadd hx hb dX0_giveWages_45 ?_
  obtain ⟨K4, hK4, hf⟩ := nmE hf
  refine q_put (ty := .int) hx hb hts hiX0 tyX0 tyX0_ok nmX0 hown hw 1 xa_1 rfl 6 (by decide) (hts (.fieldLink RX0 43 "LaceRanks$Carnival" "ribbonsTold" "I") (by decide +kernel)) rfl (by decide +kernel) rfl rfl (Nat.le_of_ble_eq_true rfl) dX0_giveWages_46 (xs_1_6.trans (congrArg (fun z => (xws cI cR ad O z)) hK4.symm)) (fun H locs hw => ?_)
  refine lv_iload hx hb dX0_giveWages_49 (lv_at hl 0 rfl) ?_
  cases hf
  exact q_iret hx hb hr hlocks hw dX0_giveWages_51

def f_X0_reasonNoMask (K : RK)  (a1 : Int32) : Option Int32 := nm (at_ 10 (K 6) a1) (fun r1 => (if r1 ≤ 0 then nm (at_ 10 (K 1) a1) (fun r2 => (if 3 ≤ r2 then some 0 else some 9)) else some 8))
set_option maxHeartbeats 4000000 in
set_option maxRecDepth 100000 in
theorem c_X0_reasonNoMask {l : Launch} {D : va_G} {cI cR : ClassId} {ad : Nat → Nat} {A : Nat → Prop} {O : XO} {K : RK}  {a1 : Int32} {r : Int32}  (hf : f_X0_reasonNoMask K a1 = some r) : MC l yX0_reasonNoMask wsX0_reasonNoMask 1 21 D cI cR A [.ref (ad 1), .int a1] (xws cI cR ad O K) (some (.int r)) (xws cI cR ad O K) := by
  refine Met.ofW (cc := cX0_reasonNoMask) (maxL := 2) (ret := (some .int)) (by decide) rfl ?_
  intro p e s m args below meth c s₁ B hml hv
  obtain ⟨rfl, hw⟩ := q_start hv
  have hx := B.exec
  have hb := B.bytes
  have hr := B.returns
  have hts := atoms_spec (ws := wsX0_reasonNoMask) B.pre
  have hown : s.vm.findClass RX0 = some m.cls := findClass_of_methodNamed B.named
  have hlocks := B.notSynchronized
  have hiX0 : ∀ w ∈ wsX00, w ∈ wsX0_reasonNoMask := by decide +kernel
  have hiX1 : ∀ w ∈ wsX10, w ∈ wsX0_reasonNoMask := by decide +kernel
  have hl := lv_entry ([.ref (ad 1), .int a1]) (n := 2) (Nat.le_of_ble_eq_true rfl)
  rw [lg_entry_eq]
  generalize (lg_sl ([.ref (ad 1), .int a1]) ++ List.replicate (2 - (lg_sl ([.ref (ad 1), .int a1])).length) Slot.unset).toArray = ls at hl ⊢
  have hl : lv_has ls 2 [(0, .ref (ad 1)), (1, .int a1)] := hl
  unfold f_X0_reasonNoMask at hf
  obtain ⟨H, eH⟩ : ∃ H, H = s.heap := ⟨_, rfl⟩
  obtain ⟨locs, eL⟩ : ∃ L : List Loc, L = [] := ⟨_, rfl⟩
  rw [← eH, ← eL] at hw ⊢
  clear eH eL
  refine lv_aload_n hx hb dX0_reasonNoMask_0 rfl (lv_at hl 0 rfl) ?_
  refine q_get hx hb hts hiX0 hown hw 1 xa_1 rfl 0 (by decide) (hts (.fieldLink RX0 12 "LaceRanks$Carnival" "guests" "LLaceRanks$Guests;") (by decide +kernel)) rfl dX0_reasonNoMask_1 ?_
  refine q_getN hx hb hts hiX1 hown hw 2 xa_2 rfl 6 (by decide) (nw_X0_94 hw.2.2.2.2) rfl dX0_reasonNoMask_4 ?_
  refine lv_iload_n hx hb dX0_reasonNoMask_7 rfl (lv_at hl 1 rfl) ?_
  obtain ⟨r1, hr1, hf⟩ := nmE hf
  refine q_callSN (rest := []) (st1 := [.int r1]) [.ref (ad 9), .int a1] ⟨hx, hb, hml, hown, hts⟩ (c_X5_at (q0 := 9) xa_9 hr1) ⟨va_cnB 2 hts gX0_reasonNoMask_X5_at_n67 rfl rfl rfl (nw_X0_67 hw.2.2.2.2) (hts (.initialized RX5) (by decide +kernel)) (by decide +kernel) ⟨Nat.le_of_ble_eq_true rfl, Nat.le_of_ble_eq_true rfl⟩, (hts (.static yX5_at) (by decide +kernel)), trivial⟩ hw rfl hl.1 rfl (Nat.le_of_ble_eq_true rfl) dX0_reasonNoMask_8 ⟨Nat.zero_le _, Nat.zero_le _⟩ rfl (fun H locs hw => ?_)
  refine lv_if_le (tgt := 17) hx hb dX0_reasonNoMask_11 (by decide) (fun hc => ?_) (fun hc => ?_)
  · have hf := iteT hf hc
    refine lv_aload_n hx hb dX0_reasonNoMask_17 rfl (lv_at hl 0 rfl) ?_
    refine q_get hx hb hts hiX0 hown hw 1 xa_1 rfl 0 (by decide) (hts (.fieldLink RX0 12 "LaceRanks$Carnival" "guests" "LLaceRanks$Guests;") (by decide +kernel)) rfl dX0_reasonNoMask_18 ?_
    refine q_getN hx hb hts hiX1 hown hw 2 xa_2 rfl 1 (by decide) (nw_X0_71 hw.2.2.2.2) rfl dX0_reasonNoMask_21 ?_
    refine lv_iload_n hx hb dX0_reasonNoMask_24 rfl (lv_at hl 1 rfl) ?_
    obtain ⟨r2, hr2, hf⟩ := nmE hf
    refine q_callSN (rest := []) (st1 := [.int r2]) [.ref (ad 4), .int a1] ⟨hx, hb, hml, hown, hts⟩ (c_X5_at (q0 := 4) xa_4 hr2) ⟨va_cnB 2 hts gX0_reasonNoMask_X5_at_n67 rfl rfl rfl (nw_X0_67 hw.2.2.2.2) (hts (.initialized RX5) (by decide +kernel)) (by decide +kernel) ⟨Nat.le_of_ble_eq_true rfl, Nat.le_of_ble_eq_true rfl⟩, (hts (.static yX5_at) (by decide +kernel)), trivial⟩ hw rfl hl.1 rfl (Nat.le_of_ble_eq_true rfl) dX0_reasonNoMask_25 ⟨Nat.zero_le _, Nat.zero_le _⟩ rfl (fun H locs hw => ?_)
    refine lv_iconst (v := 3) hx hb dX0_reasonNoMask_28 (by decide) ?_
    refine lv_icmp_ge (tgt := 37) hx hb dX0_reasonNoMask_29 (by decide) (fun hc => ?_) (fun hc => ?_)
    · have hf := iteT hf hc
      refine lv_iconst (v := 0) hx hb dX0_reasonNoMask_37 (by decide) ?_
      cases hf
      exact q_iret hx hb hr hlocks hw dX0_reasonNoMask_38
    · have hf := iteF hf hc
      refine lv_bipush (v := 9) hx hb dX0_reasonNoMask_32 (by decide) ?_
      refine lv_goto (tgt := 38) hx hb dX0_reasonNoMask_34 (by decide) ?_
      cases hf
      exact q_iret hx hb hr hlocks hw dX0_reasonNoMask_38
  · have hf := iteF hf hc
    refine lv_bipush (v := 8) hx hb dX0_reasonNoMask_14 (by decide) ?_
    cases hf
    exact q_iret hx hb hr hlocks hw dX0_reasonNoMask_16

def f_X0_takeMask (K : RK)  (a1 : Int32) : Option RK := bnd2 (f_X1_payFromPurse K a1 3) (fun r1 K2 => nm (upS K2 11 1 ((K 11 1) + r1)) (fun K3 => nm (at_ 6 (K3 10) 4) (fun r4 => nm (upR K3 6 (put_ 10 (K3 6) a1 r4)) (fun K5 => some K5))))
set_option maxHeartbeats 4000000 in
set_option maxRecDepth 100000 in
theorem c_X0_takeMask {l : Launch} {D : va_G} {cI cR : ClassId} {ad : Nat → Nat} {A : Nat → Prop} {O : XO} {K : RK} {K' : RK} {a1 : Int32}   (hf : f_X0_takeMask K a1 = some K') : MC l yX0_takeMask wsX0_takeMask 2 44 D cI cR A [.ref (ad 1), .int a1] (xws cI cR ad O K) none (xws cI cR ad O K') := by
  refine Met.ofW (cc := cX0_takeMask) (maxL := 2) (ret := none) (by decide) rfl ?_
  intro p e s m args below meth c s₁ B hml hv
  obtain ⟨rfl, hw⟩ := q_start hv
  have hx := B.exec
  have hb := B.bytes
  have hr := B.returns
  have hts := atoms_spec (ws := wsX0_takeMask) B.pre
  have hown : s.vm.findClass RX0 = some m.cls := findClass_of_methodNamed B.named
  have hlocks := B.notSynchronized
  have hiX0 : ∀ w ∈ wsX00, w ∈ wsX0_takeMask := by decide +kernel
  have hiX1 : ∀ w ∈ wsX10, w ∈ wsX0_takeMask := by decide +kernel
  have hl := lv_entry ([.ref (ad 1), .int a1]) (n := 2) (Nat.le_of_ble_eq_true rfl)
  rw [lg_entry_eq]
  generalize (lg_sl ([.ref (ad 1), .int a1]) ++ List.replicate (2 - (lg_sl ([.ref (ad 1), .int a1])).length) Slot.unset).toArray = ls at hl ⊢
  have hl : lv_has ls 2 [(0, .ref (ad 1)), (1, .int a1)] := hl
  unfold f_X0_takeMask at hf
  obtain ⟨H, eH⟩ : ∃ H, H = s.heap := ⟨_, rfl⟩
  obtain ⟨locs, eL⟩ : ∃ L : List Loc, L = [] := ⟨_, rfl⟩
  rw [← eH, ← eL] at hw ⊢
  clear eH eL
  refine lv_aload_n hx hb dX0_takeMask_0 rfl (lv_at hl 0 rfl) ?_
  refine lv_dup hx hb dX0_takeMask_1 rfl ?_
  refine q_get hx hb hts hiX0 hown hw 1 xa_1 rfl 4 (by decide) (hts (.fieldLink RX0 97 "LaceRanks$Carnival" "chest" "I") (by decide +kernel)) rfl dX0_takeMask_2 ?_
  refine lv_aload_n hx hb dX0_takeMask_5 rfl (lv_at hl 0 rfl) ?_
  refine q_get hx hb hts hiX0 hown hw 1 xa_1 rfl 0 (by decide) (hts (.fieldLink RX0 12 "LaceRanks$Carnival" "guests" "LLaceRanks$Guests;") (by decide +kernel)) rfl dX0_takeMask_6 ?_
  refine lv_iload_n hx hb dX0_takeMask_9 rfl (lv_at hl 1 rfl) ?_
  refine lv_iconst (v := 3) hx hb dX0_takeMask_10 (by decide) ?_
  obtain ⟨r1, K2, hr2, hf⟩ := bnd2S hf
  refine q_callVN (rest := [.int (K 11 1), .ref (ad 1)]) (st1 := [.int r1, .int (K 11 1), .ref (ad 1)]) [.int a1, .int 3] ⟨hx, hb, hml, hown, hts⟩ (c_X1_payFromPurse hr2) ⟨va_cnB 2 hts gX0_takeMask_X1_payFromPurse_n100 rfl rfl rfl (nw_X0_100 hw.2.2.2.2) (hts (.initialized RX1) (by decide +kernel)) (by decide +kernel) ⟨Nat.le_of_ble_eq_true rfl, Nat.le_of_ble_eq_true rfl⟩, (hts (.instanceMethod yX1_payFromPurse) (by decide +kernel)), (hts (.selects RX1 yX1_payFromPurse yX1_payFromPurse) (by decide +kernel))⟩ hw xa_2 rfl rfl hl.1 rfl (Nat.le_of_ble_eq_true rfl) dX0_takeMask_11 ⟨Nat.zero_le _, Nat.zero_le _⟩ rfl (fun H locs hw => ?_)
  refine lv_iadd hx hb dX0_takeMask_14 ?_
  obtain ⟨K3, hK3, hf⟩ := nmE hf
  refine q_put (ty := .int) hx hb hts hiX0 tyX0 tyX0_ok nmX0 hown hw 1 xa_1 rfl 4 (by decide) (hts (.fieldLink RX0 97 "LaceRanks$Carnival" "chest" "I") (by decide +kernel)) rfl (by decide +kernel) rfl rfl (Nat.le_of_ble_eq_true rfl) dX0_takeMask_15 (xs_1_4.trans (congrArg (fun z => (xws cI cR ad O z)) hK3.symm)) (fun H locs hw => ?_)
  refine lv_aload_n hx hb dX0_takeMask_18 rfl (lv_at hl 0 rfl) ?_
  refine q_get hx hb hts hiX0 hown hw 1 xa_1 rfl 0 (by decide) (hts (.fieldLink RX0 12 "LaceRanks$Carnival" "guests" "LLaceRanks$Guests;") (by decide +kernel)) rfl dX0_takeMask_19 ?_
  refine q_getN hx hb hts hiX1 hown hw 2 xa_2 rfl 6 (by decide) (nw_X0_94 hw.2.2.2.2) rfl dX0_takeMask_22 ?_
  refine lv_iload_n hx hb dX0_takeMask_25 rfl (lv_at hl 1 rfl) ?_
  refine lv_aload_n hx hb dX0_takeMask_26 rfl (lv_at hl 0 rfl) ?_
  refine q_get hx hb hts hiX0 hown hw 1 xa_1 rfl 2 (by decide) (hts (.fieldLink RX0 25 "LaceRanks$Carnival" "settings" "[I") (by decide +kernel)) rfl dX0_takeMask_27 ?_
  refine lv_iconst (v := 4) hx hb dX0_takeMask_30 (by decide) ?_
  obtain ⟨r4, hr4, hf⟩ := nmE hf
  refine q_callSN (rest := [.int a1, .ref (ad 9)]) (st1 := [.int r4, .int a1, .ref (ad 9)]) [.ref (ad 14), .int 4] ⟨hx, hb, hml, hown, hts⟩ (c_X5_at (q0 := 14) xa_14 hr4) ⟨va_cnB 2 hts gX0_takeMask_X5_at_n67 rfl rfl rfl (nw_X0_67 hw.2.2.2.2) (hts (.initialized RX5) (by decide +kernel)) (by decide +kernel) ⟨Nat.le_of_ble_eq_true rfl, Nat.le_of_ble_eq_true rfl⟩, (hts (.static yX5_at) (by decide +kernel)), trivial⟩ hw rfl hl.1 rfl (Nat.le_of_ble_eq_true rfl) dX0_takeMask_31 ⟨Nat.zero_le _, Nat.zero_le _⟩ rfl (fun H locs hw => ?_)
  obtain ⟨K5, hK5, hf⟩ := nmE hf
  refine q_callSN (rest := []) (st1 := []) [.ref (ad 9), .int a1, .int r4] ⟨hx, hb, hml, hown, hts⟩ (c_X5_put (q0 := 9) xa_9 (xs_9.trans (congrArg (fun z => (xws cI cR ad O z)) hK5.symm))) ⟨va_cnB 3 hts gX0_takeMask_X5_put_n90 rfl rfl rfl (nw_X0_90 hw.2.2.2.2) (hts (.initialized RX5) (by decide +kernel)) (by decide +kernel) ⟨Nat.le_of_ble_eq_true rfl, Nat.le_of_ble_eq_true rfl⟩, (hts (.static yX5_put) (by decide +kernel)), trivial⟩ hw rfl hl.1 rfl (Nat.le_of_ble_eq_true rfl) dX0_takeMask_34 ⟨Nat.zero_le _, Nat.zero_le _⟩ rfl (fun H locs hw => ?_)
  cases hf
  exact q_vret hx hb hr hlocks hw dX0_takeMask_37

def f_X0_payDebts (K : RK)  (a1 : Int32) : Option RK := nm (at_ 10 (K 2) a1) (fun r1 => nm (at_ 10 (K 1) a1) (fun r2 => nm (imin r1 r2) (fun r3 => bnd2 (f_X1_payFromPurse K a1 r3) (fun r4 K5 => nm (upS K5 11 1 ((K 11 1) + r4)) (fun K6 => nm (upR K6 2 (put_ 10 (K6 2) a1 (r1 - r3))) (fun K7 => some K7))))))
set_option maxHeartbeats 4000000 in
set_option maxRecDepth 100000 in
theorem c_X0_payDebts {l : Launch} {D : va_G} {cI cR : ClassId} {ad : Nat → Nat} {A : Nat → Prop} {O : XO} {K : RK} {K' : RK} {a1 : Int32}   (hf : f_X0_payDebts K a1 = some K') : MC l yX0_payDebts wsX0_payDebts 2 44 D cI cR A [.ref (ad 1), .int a1] (xws cI cR ad O K) none (xws cI cR ad O K') := by
  refine Met.ofW (cc := cX0_payDebts) (maxL := 4) (ret := none) (by decide) rfl ?_
  intro p e s m args below meth c s₁ B hml hv
  obtain ⟨rfl, hw⟩ := q_start hv
  have hx := B.exec
  have hb := B.bytes
  have hr := B.returns
  have hts := atoms_spec (ws := wsX0_payDebts) B.pre
  have hown : s.vm.findClass RX0 = some m.cls := findClass_of_methodNamed B.named
  have hlocks := B.notSynchronized
  have hiX0 : ∀ w ∈ wsX00, w ∈ wsX0_payDebts := by decide +kernel
  have hiX1 : ∀ w ∈ wsX10, w ∈ wsX0_payDebts := by decide +kernel
  have hl := lv_entry ([.ref (ad 1), .int a1]) (n := 4) (Nat.le_of_ble_eq_true rfl)
  rw [lg_entry_eq]
  generalize (lg_sl ([.ref (ad 1), .int a1]) ++ List.replicate (4 - (lg_sl ([.ref (ad 1), .int a1])).length) Slot.unset).toArray = ls at hl ⊢
  have hl : lv_has ls 4 [(0, .ref (ad 1)), (1, .int a1)] := hl
  unfold f_X0_payDebts at hf
  obtain ⟨H, eH⟩ : ∃ H, H = s.heap := ⟨_, rfl⟩
  obtain ⟨locs, eL⟩ : ∃ L : List Loc, L = [] := ⟨_, rfl⟩
  rw [← eH, ← eL] at hw ⊢
  clear eH eL
  refine lv_aload_n hx hb dX0_payDebts_0 rfl (lv_at hl 0 rfl) ?_
  refine q_get hx hb hts hiX0 hown hw 1 xa_1 rfl 0 (by decide) (hts (.fieldLink RX0 12 "LaceRanks$Carnival" "guests" "LLaceRanks$Guests;") (by decide +kernel)) rfl dX0_payDebts_1 ?_
  refine q_getN hx hb hts hiX1 hown hw 2 xa_2 rfl 2 (by decide) (nw_X0_64 hw.2.2.2.2) rfl dX0_payDebts_4 ?_
  refine lv_iload_n hx hb dX0_payDebts_7 rfl (lv_at hl 1 rfl) ?_
  obtain ⟨r1, hr1, hf⟩ := nmE hf
  refine q_callSN (rest := []) (st1 := [.int r1]) [.ref (ad 5), .int a1] ⟨hx, hb, hml, hown, hts⟩ (c_X5_at (q0 := 5) xa_5 hr1) ⟨va_cnB 2 hts gX0_payDebts_X5_at_n67 rfl rfl rfl (nw_X0_67 hw.2.2.2.2) (hts (.initialized RX5) (by decide +kernel)) (by decide +kernel) ⟨Nat.le_of_ble_eq_true rfl, Nat.le_of_ble_eq_true rfl⟩, (hts (.static yX5_at) (by decide +kernel)), trivial⟩ hw rfl hl.1 rfl (Nat.le_of_ble_eq_true rfl) dX0_payDebts_8 ⟨Nat.zero_le _, Nat.zero_le _⟩ rfl (fun H locs hw => ?_)
  refine lv_istore_n (lv' := [(2, .int r1), (0, .ref (ad 1)), (1, .int a1)]) hx hb dX0_payDebts_11 rfl hl (by decide) rfl (fun ls hl => ?_)
  refine lv_iload_n hx hb dX0_payDebts_12 rfl (lv_at hl 0 rfl) ?_
  refine lv_aload_n hx hb dX0_payDebts_13 rfl (lv_at hl 1 rfl) ?_
  refine q_get hx hb hts hiX0 hown hw 1 xa_1 rfl 0 (by decide) (hts (.fieldLink RX0 12 "LaceRanks$Carnival" "guests" "LLaceRanks$Guests;") (by decide +kernel)) rfl dX0_payDebts_14 ?_
  refine q_getN hx hb hts hiX1 hown hw 2 xa_2 rfl 1 (by decide) (nw_X0_71 hw.2.2.2.2) rfl dX0_payDebts_17 ?_
  refine lv_iload_n hx hb dX0_payDebts_20 rfl (lv_at hl 2 rfl) ?_
  obtain ⟨r2, hr2, hf⟩ := nmE hf
  refine q_callSN (rest := [.int r1]) (st1 := [.int r2, .int r1]) [.ref (ad 4), .int a1] ⟨hx, hb, hml, hown, hts⟩ (c_X5_at (q0 := 4) xa_4 hr2) ⟨va_cnB 2 hts gX0_payDebts_X5_at_n67 rfl rfl rfl (nw_X0_67 hw.2.2.2.2) (hts (.initialized RX5) (by decide +kernel)) (by decide +kernel) ⟨Nat.le_of_ble_eq_true rfl, Nat.le_of_ble_eq_true rfl⟩, (hts (.static yX5_at) (by decide +kernel)), trivial⟩ hw rfl hl.1 rfl (Nat.le_of_ble_eq_true rfl) dX0_payDebts_21 ⟨Nat.zero_le _, Nat.zero_le _⟩ rfl (fun H locs hw => ?_)
  obtain ⟨r3, hr3, hf⟩ := nmE hf
  refine va_mmin hx hb (hml.trans hl.1.symm) hown (hts (.methodLink RX0 84 Lib.Math.min.name) (by decide +kernel)) (hts (.static Lib.Math.min.name) (by decide +kernel)) (hts (.initialized "java/lang/Math") (by decide +kernel)) (hts (.code Lib.Math.min.name Lib.Math.min.code 2 (some .int)) (by decide +kernel)) (Nat.le_of_ble_eq_true rfl) (Nat.le_of_ble_eq_true rfl) (Nat.le_of_ble_eq_true rfl) (Nat.le_of_ble_eq_true rfl) dX0_payDebts_24 ?_
  refine q_is hr3 ?_
  refine lv_istore_n (lv' := [(3, .int r3), (2, .int r1), (0, .ref (ad 1)), (1, .int a1)]) hx hb dX0_payDebts_27 rfl hl (by decide) rfl (fun ls hl => ?_)
  refine lv_aload_n hx hb dX0_payDebts_28 rfl (lv_at hl 2 rfl) ?_
  refine lv_dup hx hb dX0_payDebts_29 rfl ?_
  refine q_get hx hb hts hiX0 hown hw 1 xa_1 rfl 4 (by decide) (hts (.fieldLink RX0 97 "LaceRanks$Carnival" "chest" "I") (by decide +kernel)) rfl dX0_payDebts_30 ?_
  refine lv_aload_n hx hb dX0_payDebts_33 rfl (lv_at hl 2 rfl) ?_
  refine q_get hx hb hts hiX0 hown hw 1 xa_1 rfl 0 (by decide) (hts (.fieldLink RX0 12 "LaceRanks$Carnival" "guests" "LLaceRanks$Guests;") (by decide +kernel)) rfl dX0_payDebts_34 ?_
  refine lv_iload_n hx hb dX0_payDebts_37 rfl (lv_at hl 3 rfl) ?_
  refine lv_iload_n hx hb dX0_payDebts_38 rfl (lv_at hl 0 rfl) ?_
  obtain ⟨r4, K5, hr5, hf⟩ := bnd2S hf
  refine q_callVN (rest := [.int (K 11 1), .ref (ad 1)]) (st1 := [.int r4, .int (K 11 1), .ref (ad 1)]) [.int a1, .int r3] ⟨hx, hb, hml, hown, hts⟩ (c_X1_payFromPurse hr5) ⟨va_cnB 2 hts gX0_payDebts_X1_payFromPurse_n100 rfl rfl rfl (nw_X0_100 hw.2.2.2.2) (hts (.initialized RX1) (by decide +kernel)) (by decide +kernel) ⟨Nat.le_of_ble_eq_true rfl, Nat.le_of_ble_eq_true rfl⟩, (hts (.instanceMethod yX1_payFromPurse) (by decide +kernel)), (hts (.selects RX1 yX1_payFromPurse yX1_payFromPurse) (by decide +kernel))⟩ hw xa_2 rfl rfl hl.1 rfl (Nat.le_of_ble_eq_true rfl) dX0_payDebts_39 ⟨Nat.zero_le _, Nat.zero_le _⟩ rfl (fun H locs hw => ?_)
  refine lv_iadd hx hb dX0_payDebts_42 ?_
  obtain ⟨K6, hK6, hf⟩ := nmE hf
  refine q_put (ty := .int) hx hb hts hiX0 tyX0 tyX0_ok nmX0 hown hw 1 xa_1 rfl 4 (by decide) (hts (.fieldLink RX0 97 "LaceRanks$Carnival" "chest" "I") (by decide +kernel)) rfl (by decide +kernel) rfl rfl (Nat.le_of_ble_eq_true rfl) dX0_payDebts_43 (xs_1_4.trans (congrArg (fun z => (xws cI cR ad O z)) hK6.symm)) (fun H locs hw => ?_)
  refine lv_aload_n hx hb dX0_payDebts_46 rfl (lv_at hl 2 rfl) ?_
  refine q_get hx hb hts hiX0 hown hw 1 xa_1 rfl 0 (by decide) (hts (.fieldLink RX0 12 "LaceRanks$Carnival" "guests" "LLaceRanks$Guests;") (by decide +kernel)) rfl dX0_payDebts_47 ?_
  refine q_getN hx hb hts hiX1 hown hw 2 xa_2 rfl 2 (by decide) (nw_X0_64 hw.2.2.2.2) rfl dX0_payDebts_50 ?_
  refine lv_iload_n hx hb dX0_payDebts_53 rfl (lv_at hl 3 rfl) ?_
  refine lv_iload_n hx hb dX0_payDebts_54 rfl (lv_at hl 1 rfl) ?_
  refine lv_iload_n hx hb dX0_payDebts_55 rfl (lv_at hl 0 rfl) ?_
  refine lv_isub hx hb dX0_payDebts_56 ?_
  obtain ⟨K7, hK7, hf⟩ := nmE hf
  refine q_callSN (rest := []) (st1 := []) [.ref (ad 5), .int a1, .int (r1 - r3)] ⟨hx, hb, hml, hown, hts⟩ (c_X5_put (q0 := 5) xa_5 (xs_5.trans (congrArg (fun z => (xws cI cR ad O z)) hK7.symm))) ⟨va_cnB 3 hts gX0_payDebts_X5_put_n90 rfl rfl rfl (nw_X0_90 hw.2.2.2.2) (hts (.initialized RX5) (by decide +kernel)) (by decide +kernel) ⟨Nat.le_of_ble_eq_true rfl, Nat.le_of_ble_eq_true rfl⟩, (hts (.static yX5_put) (by decide +kernel)), trivial⟩ hw rfl hl.1 rfl (Nat.le_of_ble_eq_true rfl) dX0_payDebts_57 ⟨Nat.zero_le _, Nat.zero_le _⟩ rfl (fun H locs hw => ?_)
  cases hf
  exact q_vret hx hb hr hlocks hw dX0_payDebts_60

def f_X0_reasonNoLine (K : RK)  (a1 : Int32) : Option Int32 := bnd (f_X1_isIn K a1) (fun r1 => (if r1 = 0 then bnd (f_X3_gateOf K a1) (fun r2 => (if r2 = (-1) then nm (at_ 10 (K 2) a1) (fun r3 => nm (at_ 6 (K 10) 5) (fun r4 => (if r3 ≤ r4 then some 0 else some 7))) else some 6)) else some 5))
set_option maxHeartbeats 4000000 in
set_option maxRecDepth 100000 in
theorem c_X0_reasonNoLine {l : Launch} {D : va_G} {cI cR : ClassId} {ad : Nat → Nat} {A : Nat → Prop} {O : XO} {K : RK}  {a1 : Int32} {r : Int32}  (hf : f_X0_reasonNoLine K a1 = some r) : MC l yX0_reasonNoLine wsX0_reasonNoLine 3 67 D cI cR A [.ref (ad 1), .int a1] (xws cI cR ad O K) (some (.int r)) (xws cI cR ad O K) := by
  refine Met.ofW (cc := cX0_reasonNoLine) (maxL := 2) (ret := (some .int)) (by decide) rfl ?_
  intro p e s m args below meth c s₁ B hml hv
  obtain ⟨rfl, hw⟩ := q_start hv
  have hx := B.exec
  have hb := B.bytes
  have hr := B.returns
  have hts := atoms_spec (ws := wsX0_reasonNoLine) B.pre
  have hown : s.vm.findClass RX0 = some m.cls := findClass_of_methodNamed B.named
  have hlocks := B.notSynchronized
  have hiX0 : ∀ w ∈ wsX00, w ∈ wsX0_reasonNoLine := by decide +kernel
  have hiX1 : ∀ w ∈ wsX10, w ∈ wsX0_reasonNoLine := by decide +kernel
  have hl := lv_entry ([.ref (ad 1), .int a1]) (n := 2) (Nat.le_of_ble_eq_true rfl)
  rw [lg_entry_eq]
  generalize (lg_sl ([.ref (ad 1), .int a1]) ++ List.replicate (2 - (lg_sl ([.ref (ad 1), .int a1])).length) Slot.unset).toArray = ls at hl ⊢
  have hl : lv_has ls 2 [(0, .ref (ad 1)), (1, .int a1)] := hl
  unfold f_X0_reasonNoLine at hf
  obtain ⟨H, eH⟩ : ∃ H, H = s.heap := ⟨_, rfl⟩
  obtain ⟨locs, eL⟩ : ∃ L : List Loc, L = [] := ⟨_, rfl⟩
  rw [← eH, ← eL] at hw ⊢
  clear eH eL
  refine lv_aload_n hx hb dX0_reasonNoLine_0 rfl (lv_at hl 0 rfl) ?_
  refine q_get hx hb hts hiX0 hown hw 1 xa_1 rfl 0 (by decide) (hts (.fieldLink RX0 12 "LaceRanks$Carnival" "guests" "LLaceRanks$Guests;") (by decide +kernel)) rfl dX0_reasonNoLine_1 ?_
  refine lv_iload_n hx hb dX0_reasonNoLine_4 rfl (lv_at hl 1 rfl) ?_
  obtain ⟨r1, hr1, hf⟩ := bndS hf
  refine q_callVN (rest := []) (st1 := [.int r1]) [.int a1] ⟨hx, hb, hml, hown, hts⟩ (c_X1_isIn hr1) ⟨va_cnB 1 hts gX0_reasonNoLine_X1_isIn_n57 rfl rfl rfl (nw_X0_57 hw.2.2.2.2) (hts (.initialized RX1) (by decide +kernel)) (by decide +kernel) ⟨Nat.le_of_ble_eq_true rfl, Nat.le_of_ble_eq_true rfl⟩, (hts (.instanceMethod yX1_isIn) (by decide +kernel)), (hts (.selects RX1 yX1_isIn yX1_isIn) (by decide +kernel))⟩ hw xa_2 rfl rfl hl.1 rfl (Nat.le_of_ble_eq_true rfl) dX0_reasonNoLine_5 ⟨Nat.zero_le _, Nat.zero_le _⟩ rfl (fun H locs hw => ?_)
  refine lv_if_eq (tgt := 13) hx hb dX0_reasonNoLine_8 (by decide) (fun hc => ?_) (fun hc => ?_)
  · have hf := iteT hf hc
    refine lv_aload_n hx hb dX0_reasonNoLine_13 rfl (lv_at hl 0 rfl) ?_
    refine q_get hx hb hts hiX0 hown hw 1 xa_1 rfl 1 (by decide) (hts (.fieldLink RX0 21 "LaceRanks$Carnival" "lines" "LLaceRanks$Lines;") (by decide +kernel)) rfl dX0_reasonNoLine_14 ?_
    refine lv_iload_n hx hb dX0_reasonNoLine_17 rfl (lv_at hl 1 rfl) ?_
    obtain ⟨r2, hr2, hf⟩ := bndS hf
    refine q_callVN (rest := []) (st1 := [.int r2]) [.int a1] ⟨hx, hb, hml, hown, hts⟩ (c_X3_gateOf hr2) ⟨va_cnB 1 hts gX0_reasonNoLine_X3_gateOf_n61 rfl rfl rfl (nw_X0_61 hw.2.2.2.2) (hts (.initialized RX3) (by decide +kernel)) (by decide +kernel) ⟨Nat.le_of_ble_eq_true rfl, Nat.le_of_ble_eq_true rfl⟩, (hts (.instanceMethod yX3_gateOf) (by decide +kernel)), (hts (.selects RX3 yX3_gateOf yX3_gateOf) (by decide +kernel))⟩ hw xa_11 rfl rfl hl.1 rfl (Nat.le_of_ble_eq_true rfl) dX0_reasonNoLine_18 ⟨Nat.zero_le _, Nat.zero_le _⟩ rfl (fun H locs hw => ?_)
    refine lv_iconst (v := (-1)) hx hb dX0_reasonNoLine_21 (by decide) ?_
    refine lv_icmp_eq (tgt := 28) hx hb dX0_reasonNoLine_22 (by decide) (fun hc => ?_) (fun hc => ?_)
    · have hf := iteT hf hc
      refine lv_aload_n hx hb dX0_reasonNoLine_28 rfl (lv_at hl 0 rfl) ?_
      refine q_get hx hb hts hiX0 hown hw 1 xa_1 rfl 0 (by decide) (hts (.fieldLink RX0 12 "LaceRanks$Carnival" "guests" "LLaceRanks$Guests;") (by decide +kernel)) rfl dX0_reasonNoLine_29 ?_
      refine q_getN hx hb hts hiX1 hown hw 2 xa_2 rfl 2 (by decide) (nw_X0_64 hw.2.2.2.2) rfl dX0_reasonNoLine_32 ?_
      refine lv_iload_n hx hb dX0_reasonNoLine_35 rfl (lv_at hl 1 rfl) ?_
      obtain ⟨r3, hr3, hf⟩ := nmE hf
      refine q_callSN (rest := []) (st1 := [.int r3]) [.ref (ad 5), .int a1] ⟨hx, hb, hml, hown, hts⟩ (c_X5_at (q0 := 5) xa_5 hr3) ⟨va_cnB 2 hts gX0_reasonNoLine_X5_at_n67 rfl rfl rfl (nw_X0_67 hw.2.2.2.2) (hts (.initialized RX5) (by decide +kernel)) (by decide +kernel) ⟨Nat.le_of_ble_eq_true rfl, Nat.le_of_ble_eq_true rfl⟩, (hts (.static yX5_at) (by decide +kernel)), trivial⟩ hw rfl hl.1 rfl (Nat.le_of_ble_eq_true rfl) dX0_reasonNoLine_36 ⟨Nat.zero_le _, Nat.zero_le _⟩ rfl (fun H locs hw => ?_)
      refine lv_aload_n hx hb dX0_reasonNoLine_39 rfl (lv_at hl 0 rfl) ?_
      refine q_get hx hb hts hiX0 hown hw 1 xa_1 rfl 2 (by decide) (hts (.fieldLink RX0 25 "LaceRanks$Carnival" "settings" "[I") (by decide +kernel)) rfl dX0_reasonNoLine_40 ?_
      refine lv_iconst (v := 5) hx hb dX0_reasonNoLine_43 (by decide) ?_
      obtain ⟨r4, hr4, hf⟩ := nmE hf
      refine q_callSN (rest := [.int r3]) (st1 := [.int r4, .int r3]) [.ref (ad 14), .int 5] ⟨hx, hb, hml, hown, hts⟩ (c_X5_at (q0 := 14) xa_14 hr4) ⟨va_cnB 2 hts gX0_reasonNoLine_X5_at_n67 rfl rfl rfl (nw_X0_67 hw.2.2.2.2) (hts (.initialized RX5) (by decide +kernel)) (by decide +kernel) ⟨Nat.le_of_ble_eq_true rfl, Nat.le_of_ble_eq_true rfl⟩, (hts (.static yX5_at) (by decide +kernel)), trivial⟩ hw rfl hl.1 rfl (Nat.le_of_ble_eq_true rfl) dX0_reasonNoLine_44 ⟨Nat.zero_le _, Nat.zero_le _⟩ rfl (fun H locs hw => ?_)
      refine lv_icmp_le (tgt := 55) hx hb dX0_reasonNoLine_47 (by decide) (fun hc => ?_) (fun hc => ?_)
      · have hf := iteT hf hc
        refine lv_iconst (v := 0) hx hb dX0_reasonNoLine_55 (by decide) ?_
        cases hf
        exact q_iret hx hb hr hlocks hw dX0_reasonNoLine_56
      · have hf := iteF hf hc
        refine lv_bipush (v := 7) hx hb dX0_reasonNoLine_50 (by decide) ?_
        refine lv_goto (tgt := 56) hx hb dX0_reasonNoLine_52 (by decide) ?_
        cases hf
        exact q_iret hx hb hr hlocks hw dX0_reasonNoLine_56
    · have hf := iteF hf hc
      refine lv_bipush (v := 6) hx hb dX0_reasonNoLine_25 (by decide) ?_
      cases hf
      exact q_iret hx hb hr hlocks hw dX0_reasonNoLine_27
  · have hf := iteF hf hc
    refine lv_iconst (v := 5) hx hb dX0_reasonNoLine_11 (by decide) ?_
    cases hf
    exact q_iret hx hb hr hlocks hw dX0_reasonNoLine_12

def f_X0_allowedElls (K : RK)  (a1 : Int32) (a2 : Int32) (a3 : Int32) : Option Int32 := nm (at_ 6 (K 10) 0) (fun r1 => nm (at_ 6 (K 10) 1) (fun r2 => nm (r1 + (r2 * a2)) (fun v3 => (if a1 = 1 then nm (imax (v3 - 2) 0) (fun r5 => some r5) else (if a1 = 2 then nm (at_ 6 (K 10) 2) (fun r4 => some (v3 + ((a3 - a3 / 3 * 3) * r4))) else some v3)))))
set_option maxHeartbeats 4000000 in
set_option maxRecDepth 100000 in
theorem c_X0_allowedElls {l : Launch} {D : va_G} {cI cR : ClassId} {ad : Nat → Nat} {A : Nat → Prop} {O : XO} {K : RK}  {a1 : Int32} {a2 : Int32} {a3 : Int32} {r : Int32}  (hf : f_X0_allowedElls K a1 a2 a3 = some r) : MC l yX0_allowedElls wsX0_allowedElls 1 21 D cI cR A [.ref (ad 1), .int a1, .int a2, .int a3] (xws cI cR ad O K) (some (.int r)) (xws cI cR ad O K) := by
  refine Met.ofW (cc := cX0_allowedElls) (maxL := 5) (ret := (some .int)) (by decide) rfl ?_
  intro p e s m args below meth c s₁ B hml hv
  obtain ⟨rfl, hw⟩ := q_start hv
  have hx := B.exec
  have hb := B.bytes
  have hr := B.returns
  have hts := atoms_spec (ws := wsX0_allowedElls) B.pre
  have hown : s.vm.findClass RX0 = some m.cls := findClass_of_methodNamed B.named
  have hlocks := B.notSynchronized
  have hiX0 : ∀ w ∈ wsX00, w ∈ wsX0_allowedElls := by decide +kernel
  have hl := lv_entry ([.ref (ad 1), .int a1, .int a2, .int a3]) (n := 5) (Nat.le_of_ble_eq_true rfl)
  rw [lg_entry_eq]
  generalize (lg_sl ([.ref (ad 1), .int a1, .int a2, .int a3]) ++ List.replicate (5 - (lg_sl ([.ref (ad 1), .int a1, .int a2, .int a3])).length) Slot.unset).toArray = ls at hl ⊢
  have hl : lv_has ls 5 [(0, .ref (ad 1)), (1, .int a1), (2, .int a2), (3, .int a3)] := hl
  unfold f_X0_allowedElls at hf
  obtain ⟨H, eH⟩ : ∃ H, H = s.heap := ⟨_, rfl⟩
  obtain ⟨locs, eL⟩ : ∃ L : List Loc, L = [] := ⟨_, rfl⟩
  rw [← eH, ← eL] at hw ⊢
  clear eH eL
  refine lv_aload_n hx hb dX0_allowedElls_0 rfl (lv_at hl 0 rfl) ?_
  refine q_get hx hb hts hiX0 hown hw 1 xa_1 rfl 2 (by decide) (hts (.fieldLink RX0 25 "LaceRanks$Carnival" "settings" "[I") (by decide +kernel)) rfl dX0_allowedElls_1 ?_
  refine lv_iconst (v := 0) hx hb dX0_allowedElls_4 (by decide) ?_
  obtain ⟨r1, hr1, hf⟩ := nmE hf
  refine q_callSN (rest := []) (st1 := [.int r1]) [.ref (ad 14), .int 0] ⟨hx, hb, hml, hown, hts⟩ (c_X5_at (q0 := 14) xa_14 hr1) ⟨va_cnB 2 hts gX0_allowedElls_X5_at_n67 rfl rfl rfl (nw_X0_67 hw.2.2.2.2) (hts (.initialized RX5) (by decide +kernel)) (by decide +kernel) ⟨Nat.le_of_ble_eq_true rfl, Nat.le_of_ble_eq_true rfl⟩, (hts (.static yX5_at) (by decide +kernel)), trivial⟩ hw rfl hl.1 rfl (Nat.le_of_ble_eq_true rfl) dX0_allowedElls_5 ⟨Nat.zero_le _, Nat.zero_le _⟩ rfl (fun H locs hw => ?_)
  refine lv_aload_n hx hb dX0_allowedElls_8 rfl (lv_at hl 0 rfl) ?_
  refine q_get hx hb hts hiX0 hown hw 1 xa_1 rfl 2 (by decide) (hts (.fieldLink RX0 25 "LaceRanks$Carnival" "settings" "[I") (by decide +kernel)) rfl dX0_allowedElls_9 ?_
  refine lv_iconst (v := 1) hx hb dX0_allowedElls_12 (by decide) ?_
  obtain ⟨r2, hr2, hf⟩ := nmE hf
  refine q_callSN (rest := [.int r1]) (st1 := [.int r2, .int r1]) [.ref (ad 14), .int 1] ⟨hx, hb, hml, hown, hts⟩ (c_X5_at (q0 := 14) xa_14 hr2) ⟨va_cnB 2 hts gX0_allowedElls_X5_at_n67 rfl rfl rfl (nw_X0_67 hw.2.2.2.2) (hts (.initialized RX5) (by decide +kernel)) (by decide +kernel) ⟨Nat.le_of_ble_eq_true rfl, Nat.le_of_ble_eq_true rfl⟩, (hts (.static yX5_at) (by decide +kernel)), trivial⟩ hw rfl hl.1 rfl (Nat.le_of_ble_eq_true rfl) dX0_allowedElls_13 ⟨Nat.zero_le _, Nat.zero_le _⟩ rfl (fun H locs hw => ?_)
  refine lv_iload_n hx hb dX0_allowedElls_16 rfl (lv_at hl 2 rfl) ?_
  refine lv_imul hx hb dX0_allowedElls_17 ?_
  refine lv_iadd hx hb dX0_allowedElls_18 ?_
  obtain ⟨v3, hv3, hf⟩ := nmE hf
  refine q_is hv3 ?_
  refine lv_istore (lv' := [(4, .int v3), (0, .ref (ad 1)), (1, .int a1), (2, .int a2), (3, .int a3)]) hx hb dX0_allowedElls_19 hl (by decide) rfl (fun ls hl => ?_)
  refine lv_iload_n hx hb dX0_allowedElls_21 rfl (lv_at hl 2 rfl) ?_
  refine lv_iconst (v := 1) hx hb dX0_allowedElls_22 (by decide) ?_
  refine lv_icmp_ne (tgt := 35) hx hb dX0_allowedElls_23 (by decide) (fun hc => ?_) (fun hc => ?_)
  · have hf := iteF hf hc
    refine lv_iload_n hx hb dX0_allowedElls_35 rfl (lv_at hl 2 rfl) ?_
    refine lv_iconst (v := 2) hx hb dX0_allowedElls_36 (by decide) ?_
    refine lv_icmp_ne (tgt := 58) hx hb dX0_allowedElls_37 (by decide) (fun hc => ?_) (fun hc => ?_)
    · have hf := iteF hf hc
      refine lv_iload hx hb dX0_allowedElls_58 (lv_at hl 0 rfl) ?_
      cases hf
      exact q_iret hx hb hr hlocks hw dX0_allowedElls_60
    · have hf := iteT hf hc
      refine lv_iload hx hb dX0_allowedElls_40 (lv_at hl 0 rfl) ?_
      refine lv_iload_n hx hb dX0_allowedElls_42 rfl (lv_at hl 4 rfl) ?_
      refine lv_iconst (v := 3) hx hb dX0_allowedElls_43 (by decide) ?_
      refine lv_irem hx hb dX0_allowedElls_44 (by decide) ?_
      refine lv_aload_n hx hb dX0_allowedElls_45 rfl (lv_at hl 1 rfl) ?_
      refine q_get hx hb hts hiX0 hown hw 1 xa_1 rfl 2 (by decide) (hts (.fieldLink RX0 25 "LaceRanks$Carnival" "settings" "[I") (by decide +kernel)) rfl dX0_allowedElls_46 ?_
      refine lv_iconst (v := 2) hx hb dX0_allowedElls_49 (by decide) ?_
      obtain ⟨r4, hr4, hf⟩ := nmE hf
      refine q_callSN (rest := [.int (a3 - a3 / 3 * 3), .int v3]) (st1 := [.int r4, .int (a3 - a3 / 3 * 3), .int v3]) [.ref (ad 14), .int 2] ⟨hx, hb, hml, hown, hts⟩ (c_X5_at (q0 := 14) xa_14 hr4) ⟨va_cnB 2 hts gX0_allowedElls_X5_at_n67 rfl rfl rfl (nw_X0_67 hw.2.2.2.2) (hts (.initialized RX5) (by decide +kernel)) (by decide +kernel) ⟨Nat.le_of_ble_eq_true rfl, Nat.le_of_ble_eq_true rfl⟩, (hts (.static yX5_at) (by decide +kernel)), trivial⟩ hw rfl hl.1 rfl (Nat.le_of_ble_eq_true rfl) dX0_allowedElls_50 ⟨Nat.zero_le _, Nat.zero_le _⟩ rfl (fun H locs hw => ?_)
      refine lv_imul hx hb dX0_allowedElls_53 ?_
      refine lv_iadd hx hb dX0_allowedElls_54 ?_
      refine lv_goto (tgt := 60) hx hb dX0_allowedElls_55 (by decide) ?_
      cases hf
      exact q_iret hx hb hr hlocks hw dX0_allowedElls_60
  · have hf := iteT hf hc
    refine lv_iload hx hb dX0_allowedElls_26 (lv_at hl 0 rfl) ?_
    refine lv_iconst (v := 2) hx hb dX0_allowedElls_28 (by decide) ?_
    refine lv_isub hx hb dX0_allowedElls_29 ?_
    refine lv_iconst (v := 0) hx hb dX0_allowedElls_30 (by decide) ?_
    obtain ⟨r5, hr5, hf⟩ := nmE hf
    refine va_mmax hx hb (hml.trans hl.1.symm) hown (hts (.methodLink RX0 103 Lib.Math.max.name) (by decide +kernel)) (hts (.static Lib.Math.max.name) (by decide +kernel)) (hts (.initialized "java/lang/Math") (by decide +kernel)) (hts (.code Lib.Math.max.name Lib.Math.max.code 2 (some .int)) (by decide +kernel)) (Nat.le_of_ble_eq_true rfl) (Nat.le_of_ble_eq_true rfl) (Nat.le_of_ble_eq_true rfl) (Nat.le_of_ble_eq_true rfl) dX0_allowedElls_31 ?_
    refine q_is hr5 ?_
    cases hf
    exact q_iret hx hb hr hlocks hw dX0_allowedElls_34

def f_X0_passesMasked (K : RK)  (a1 : Int32) : Option Int32 := bnd (f_X1_wornCoat K a1) (fun r1 => (if r1 = (-1) then some 0 else nm (at_ 10 (K 6) a1) (fun r2 => (if r2 ≤ 0 then some 0 else nm (at_ 10 (K 1) a1) (fun r3 => (if r3 ≤ 0 then some 0 else some 1))))))
set_option maxHeartbeats 4000000 in
set_option maxRecDepth 100000 in
theorem c_X0_passesMasked {l : Launch} {D : va_G} {cI cR : ClassId} {ad : Nat → Nat} {A : Nat → Prop} {O : XO} {K : RK}  {a1 : Int32} {r : Int32}  (hf : f_X0_passesMasked K a1 = some r) : MC l yX0_passesMasked wsX0_passesMasked 2 43 D cI cR A [.ref (ad 1), .int a1] (xws cI cR ad O K) (some (.int r)) (xws cI cR ad O K) := by
  refine Met.ofW (cc := cX0_passesMasked) (maxL := 2) (ret := (some .boolean)) (by decide) rfl ?_
  intro p e s m args below meth c s₁ B hml hv
  obtain ⟨rfl, hw⟩ := q_start hv
  have hx := B.exec
  have hb := B.bytes
  have hr := B.returns
  have hts := atoms_spec (ws := wsX0_passesMasked) B.pre
  have hown : s.vm.findClass RX0 = some m.cls := findClass_of_methodNamed B.named
  have hlocks := B.notSynchronized
  have hiX0 : ∀ w ∈ wsX00, w ∈ wsX0_passesMasked := by decide +kernel
  have hiX1 : ∀ w ∈ wsX10, w ∈ wsX0_passesMasked := by decide +kernel
  have hl := lv_entry ([.ref (ad 1), .int a1]) (n := 2) (Nat.le_of_ble_eq_true rfl)
  rw [lg_entry_eq]
  generalize (lg_sl ([.ref (ad 1), .int a1]) ++ List.replicate (2 - (lg_sl ([.ref (ad 1), .int a1])).length) Slot.unset).toArray = ls at hl ⊢
  have hl : lv_has ls 2 [(0, .ref (ad 1)), (1, .int a1)] := hl
  unfold f_X0_passesMasked at hf
  obtain ⟨H, eH⟩ : ∃ H, H = s.heap := ⟨_, rfl⟩
  obtain ⟨locs, eL⟩ : ∃ L : List Loc, L = [] := ⟨_, rfl⟩
  rw [← eH, ← eL] at hw ⊢
  clear eH eL
  refine lv_aload_n hx hb dX0_passesMasked_0 rfl (lv_at hl 0 rfl) ?_
  refine q_get hx hb hts hiX0 hown hw 1 xa_1 rfl 0 (by decide) (hts (.fieldLink RX0 12 "LaceRanks$Carnival" "guests" "LLaceRanks$Guests;") (by decide +kernel)) rfl dX0_passesMasked_1 ?_
  refine lv_iload_n hx hb dX0_passesMasked_4 rfl (lv_at hl 1 rfl) ?_
  obtain ⟨r1, hr1, hf⟩ := bndS hf
  refine q_callVN (rest := []) (st1 := [.int r1]) [.int a1] ⟨hx, hb, hml, hown, hts⟩ (c_X1_wornCoat hr1) ⟨va_cnB 1 hts gX0_passesMasked_X1_wornCoat_n53 rfl rfl rfl (nw_X0_53 hw.2.2.2.2) (hts (.initialized RX1) (by decide +kernel)) (by decide +kernel) ⟨Nat.le_of_ble_eq_true rfl, Nat.le_of_ble_eq_true rfl⟩, (hts (.instanceMethod yX1_wornCoat) (by decide +kernel)), (hts (.selects RX1 yX1_wornCoat yX1_wornCoat) (by decide +kernel))⟩ hw xa_2 rfl rfl hl.1 rfl (Nat.le_of_ble_eq_true rfl) dX0_passesMasked_5 ⟨Nat.zero_le _, Nat.zero_le _⟩ rfl (fun H locs hw => ?_)
  refine lv_iconst (v := (-1)) hx hb dX0_passesMasked_8 (by decide) ?_
  refine lv_icmp_eq (tgt := 44) hx hb dX0_passesMasked_9 (by decide) (fun hc => ?_) (fun hc => ?_)
  · have hf := iteT hf hc
    refine lv_iconst (v := 0) hx hb dX0_passesMasked_44 (by decide) ?_
    cases hf
    exact q_zret hx hb hr nb_0 hlocks hw dX0_passesMasked_45
  · have hf := iteF hf hc
    refine lv_aload_n hx hb dX0_passesMasked_12 rfl (lv_at hl 0 rfl) ?_
    refine q_get hx hb hts hiX0 hown hw 1 xa_1 rfl 0 (by decide) (hts (.fieldLink RX0 12 "LaceRanks$Carnival" "guests" "LLaceRanks$Guests;") (by decide +kernel)) rfl dX0_passesMasked_13 ?_
    refine q_getN hx hb hts hiX1 hown hw 2 xa_2 rfl 6 (by decide) (nw_X0_94 hw.2.2.2.2) rfl dX0_passesMasked_16 ?_
    refine lv_iload_n hx hb dX0_passesMasked_19 rfl (lv_at hl 1 rfl) ?_
    obtain ⟨r2, hr2, hf⟩ := nmE hf
    refine q_callSN (rest := []) (st1 := [.int r2]) [.ref (ad 9), .int a1] ⟨hx, hb, hml, hown, hts⟩ (c_X5_at (q0 := 9) xa_9 hr2) ⟨va_cnB 2 hts gX0_passesMasked_X5_at_n67 rfl rfl rfl (nw_X0_67 hw.2.2.2.2) (hts (.initialized RX5) (by decide +kernel)) (by decide +kernel) ⟨Nat.le_of_ble_eq_true rfl, Nat.le_of_ble_eq_true rfl⟩, (hts (.static yX5_at) (by decide +kernel)), trivial⟩ hw rfl hl.1 rfl (Nat.le_of_ble_eq_true rfl) dX0_passesMasked_20 ⟨Nat.zero_le _, Nat.zero_le _⟩ rfl (fun H locs hw => ?_)
    refine lv_if_le (tgt := 44) hx hb dX0_passesMasked_23 (by decide) (fun hc => ?_) (fun hc => ?_)
    · have hf := iteT hf hc
      refine lv_iconst (v := 0) hx hb dX0_passesMasked_44 (by decide) ?_
      cases hf
      exact q_zret hx hb hr nb_0 hlocks hw dX0_passesMasked_45
    · have hf := iteF hf hc
      refine lv_aload_n hx hb dX0_passesMasked_26 rfl (lv_at hl 0 rfl) ?_
      refine q_get hx hb hts hiX0 hown hw 1 xa_1 rfl 0 (by decide) (hts (.fieldLink RX0 12 "LaceRanks$Carnival" "guests" "LLaceRanks$Guests;") (by decide +kernel)) rfl dX0_passesMasked_27 ?_
      refine q_getN hx hb hts hiX1 hown hw 2 xa_2 rfl 1 (by decide) (nw_X0_71 hw.2.2.2.2) rfl dX0_passesMasked_30 ?_
      refine lv_iload_n hx hb dX0_passesMasked_33 rfl (lv_at hl 1 rfl) ?_
      obtain ⟨r3, hr3, hf⟩ := nmE hf
      refine q_callSN (rest := []) (st1 := [.int r3]) [.ref (ad 4), .int a1] ⟨hx, hb, hml, hown, hts⟩ (c_X5_at (q0 := 4) xa_4 hr3) ⟨va_cnB 2 hts gX0_passesMasked_X5_at_n67 rfl rfl rfl (nw_X0_67 hw.2.2.2.2) (hts (.initialized RX5) (by decide +kernel)) (by decide +kernel) ⟨Nat.le_of_ble_eq_true rfl, Nat.le_of_ble_eq_true rfl⟩, (hts (.static yX5_at) (by decide +kernel)), trivial⟩ hw rfl hl.1 rfl (Nat.le_of_ble_eq_true rfl) dX0_passesMasked_34 ⟨Nat.zero_le _, Nat.zero_le _⟩ rfl (fun H locs hw => ?_)
      refine lv_if_le (tgt := 44) hx hb dX0_passesMasked_37 (by decide) (fun hc => ?_) (fun hc => ?_)
      · have hf := iteT hf hc
        refine lv_iconst (v := 0) hx hb dX0_passesMasked_44 (by decide) ?_
        cases hf
        exact q_zret hx hb hr nb_0 hlocks hw dX0_passesMasked_45
      · have hf := iteF hf hc
        refine lv_iconst (v := 1) hx hb dX0_passesMasked_40 (by decide) ?_
        refine lv_goto (tgt := 45) hx hb dX0_passesMasked_41 (by decide) ?_
        cases hf
        exact q_zret hx hb hr nb_1 hlocks hw dX0_passesMasked_45

def f_X0_ellsTooMuch (K : RK)  (a1 : Int32) (a2 : Int32) : Option Int32 := bnd (f_X0_passesMasked K a1) (fun r1 => (if r1 = 0 then bnd (f_X1_wornLace K a1) (fun r2 => nm (at_ 10 (K 0) a1) (fun r3 => bnd (f_X0_allowedElls K a2 r3 (K 11 0)) (fun r4 => nm (imax (r2 - r4) 0) (fun r5 => some r5)))) else some 0))
set_option maxHeartbeats 4000000 in
set_option maxRecDepth 100000 in
theorem c_X0_ellsTooMuch {l : Launch} {D : va_G} {cI cR : ClassId} {ad : Nat → Nat} {A : Nat → Prop} {O : XO} {K : RK}  {a1 : Int32} {a2 : Int32} {r : Int32}  (hf : f_X0_ellsTooMuch K a1 a2 = some r) : MC l yX0_ellsTooMuch wsX0_ellsTooMuch 3 65 D cI cR A [.ref (ad 1), .int a1, .int a2] (xws cI cR ad O K) (some (.int r)) (xws cI cR ad O K) := by
  refine Met.ofW (cc := cX0_ellsTooMuch) (maxL := 3) (ret := (some .int)) (by decide) rfl ?_
  intro p e s m args below meth c s₁ B hml hv
  obtain ⟨rfl, hw⟩ := q_start hv
  have hx := B.exec
  have hb := B.bytes
  have hr := B.returns
  have hts := atoms_spec (ws := wsX0_ellsTooMuch) B.pre
  have hown : s.vm.findClass RX0 = some m.cls := findClass_of_methodNamed B.named
  have hlocks := B.notSynchronized
  have hiX0 : ∀ w ∈ wsX00, w ∈ wsX0_ellsTooMuch := by decide +kernel
  have hiX1 : ∀ w ∈ wsX10, w ∈ wsX0_ellsTooMuch := by decide +kernel
  have hl := lv_entry ([.ref (ad 1), .int a1, .int a2]) (n := 3) (Nat.le_of_ble_eq_true rfl)
  rw [lg_entry_eq]
  generalize (lg_sl ([.ref (ad 1), .int a1, .int a2]) ++ List.replicate (3 - (lg_sl ([.ref (ad 1), .int a1, .int a2])).length) Slot.unset).toArray = ls at hl ⊢
  have hl : lv_has ls 3 [(0, .ref (ad 1)), (1, .int a1), (2, .int a2)] := hl
  unfold f_X0_ellsTooMuch at hf
  obtain ⟨H, eH⟩ : ∃ H, H = s.heap := ⟨_, rfl⟩
  obtain ⟨locs, eL⟩ : ∃ L : List Loc, L = [] := ⟨_, rfl⟩
  rw [← eH, ← eL] at hw ⊢
  clear eH eL
  refine lv_aload_n hx hb dX0_ellsTooMuch_0 rfl (lv_at hl 0 rfl) ?_
  refine lv_iload_n hx hb dX0_ellsTooMuch_1 rfl (lv_at hl 1 rfl) ?_
  obtain ⟨r1, hr1, hf⟩ := bndS hf
  refine q_callV (rest := []) (st1 := [.int r1]) [.int a1] ⟨hx, hb, hml, hown, hts⟩ (c_X0_passesMasked hr1) (cwV 1 hts gX0_ellsTooMuch_X0_passesMasked rfl rfl rfl (by decide +kernel) ⟨Nat.le_of_ble_eq_true rfl, Nat.le_of_ble_eq_true rfl⟩) hw xa_1 rfl rfl hl.1 rfl (Nat.le_of_ble_eq_true rfl) dX0_ellsTooMuch_2 ⟨Nat.zero_le _, Nat.zero_le _⟩ rfl (fun H locs hw => ?_)
  refine lv_if_eq (tgt := 10) hx hb dX0_ellsTooMuch_5 (by decide) (fun hc => ?_) (fun hc => ?_)
  · have hf := iteT hf hc
    refine lv_aload_n hx hb dX0_ellsTooMuch_10 rfl (lv_at hl 0 rfl) ?_
    refine q_get hx hb hts hiX0 hown hw 1 xa_1 rfl 0 (by decide) (hts (.fieldLink RX0 12 "LaceRanks$Carnival" "guests" "LLaceRanks$Guests;") (by decide +kernel)) rfl dX0_ellsTooMuch_11 ?_
    refine lv_iload_n hx hb dX0_ellsTooMuch_14 rfl (lv_at hl 1 rfl) ?_
    obtain ⟨r2, hr2, hf⟩ := bndS hf
    refine q_callVN (rest := []) (st1 := [.int r2]) [.int a1] ⟨hx, hb, hml, hown, hts⟩ (c_X1_wornLace hr2) ⟨va_cnB 1 hts gX0_ellsTooMuch_X1_wornLace_n109 rfl rfl rfl (nw_X0_109 hw.2.2.2.2) (hts (.initialized RX1) (by decide +kernel)) (by decide +kernel) ⟨Nat.le_of_ble_eq_true rfl, Nat.le_of_ble_eq_true rfl⟩, (hts (.instanceMethod yX1_wornLace) (by decide +kernel)), (hts (.selects RX1 yX1_wornLace yX1_wornLace) (by decide +kernel))⟩ hw xa_2 rfl rfl hl.1 rfl (Nat.le_of_ble_eq_true rfl) dX0_ellsTooMuch_15 ⟨Nat.zero_le _, Nat.zero_le _⟩ rfl (fun H locs hw => ?_)
    refine lv_aload_n hx hb dX0_ellsTooMuch_18 rfl (lv_at hl 0 rfl) ?_
    refine lv_iload_n hx hb dX0_ellsTooMuch_19 rfl (lv_at hl 2 rfl) ?_
    refine lv_aload_n hx hb dX0_ellsTooMuch_20 rfl (lv_at hl 0 rfl) ?_
    refine q_get hx hb hts hiX0 hown hw 1 xa_1 rfl 0 (by decide) (hts (.fieldLink RX0 12 "LaceRanks$Carnival" "guests" "LLaceRanks$Guests;") (by decide +kernel)) rfl dX0_ellsTooMuch_21 ?_
    refine q_getN hx hb hts hiX1 hown hw 2 xa_2 rfl 0 (by decide) (nw_X0_112 hw.2.2.2.2) rfl dX0_ellsTooMuch_24 ?_
    refine lv_iload_n hx hb dX0_ellsTooMuch_27 rfl (lv_at hl 1 rfl) ?_
    obtain ⟨r3, hr3, hf⟩ := nmE hf
    refine q_callSN (rest := [.int a2, .ref (ad 1), .int r2]) (st1 := [.int r3, .int a2, .ref (ad 1), .int r2]) [.ref (ad 3), .int a1] ⟨hx, hb, hml, hown, hts⟩ (c_X5_at (q0 := 3) xa_3 hr3) ⟨va_cnB 2 hts gX0_ellsTooMuch_X5_at_n67 rfl rfl rfl (nw_X0_67 hw.2.2.2.2) (hts (.initialized RX5) (by decide +kernel)) (by decide +kernel) ⟨Nat.le_of_ble_eq_true rfl, Nat.le_of_ble_eq_true rfl⟩, (hts (.static yX5_at) (by decide +kernel)), trivial⟩ hw rfl hl.1 rfl (Nat.le_of_ble_eq_true rfl) dX0_ellsTooMuch_28 ⟨Nat.zero_le _, Nat.zero_le _⟩ rfl (fun H locs hw => ?_)
    refine lv_aload_n hx hb dX0_ellsTooMuch_31 rfl (lv_at hl 0 rfl) ?_
    refine q_get hx hb hts hiX0 hown hw 1 xa_1 rfl 3 (by decide) (hts (.fieldLink RX0 115 "LaceRanks$Carnival" "nightNumber" "I") (by decide +kernel)) rfl dX0_ellsTooMuch_32 ?_
    obtain ⟨r4, hr4, hf⟩ := bndS hf
    refine q_callV (rest := [.int r2]) (st1 := [.int r4, .int r2]) [.int a2, .int r3, .int (K 11 0)] ⟨hx, hb, hml, hown, hts⟩ (c_X0_allowedElls hr4) (cwV 3 hts gX0_ellsTooMuch_X0_allowedElls rfl rfl rfl (by decide +kernel) ⟨Nat.le_of_ble_eq_true rfl, Nat.le_of_ble_eq_true rfl⟩) hw xa_1 rfl rfl hl.1 rfl (Nat.le_of_ble_eq_true rfl) dX0_ellsTooMuch_35 ⟨Nat.zero_le _, Nat.zero_le _⟩ rfl (fun H locs hw => ?_)
    refine lv_isub hx hb dX0_ellsTooMuch_38 ?_
    refine lv_iconst (v := 0) hx hb dX0_ellsTooMuch_39 (by decide) ?_
    obtain ⟨r5, hr5, hf⟩ := nmE hf
    refine va_mmax hx hb (hml.trans hl.1.symm) hown (hts (.methodLink RX0 103 Lib.Math.max.name) (by decide +kernel)) (hts (.static Lib.Math.max.name) (by decide +kernel)) (hts (.initialized "java/lang/Math") (by decide +kernel)) (hts (.code Lib.Math.max.name Lib.Math.max.code 2 (some .int)) (by decide +kernel)) (Nat.le_of_ble_eq_true rfl) (Nat.le_of_ble_eq_true rfl) (Nat.le_of_ble_eq_true rfl) (Nat.le_of_ble_eq_true rfl) dX0_ellsTooMuch_40 ?_
    refine q_is hr5 ?_
    cases hf
    exact q_iret hx hb hr hlocks hw dX0_ellsTooMuch_43
  · have hf := iteF hf hc
    refine lv_iconst (v := 0) hx hb dX0_ellsTooMuch_8 (by decide) ?_
    cases hf
    exact q_iret hx hb hr hlocks hw dX0_ellsTooMuch_9

def f_X0_paidByGuest (K : RK)  (a1 : Int32) (a2 : Int32) : Option Int32 := bnd (f_X0_passesMasked K a1) (fun r1 => (if r1 = 0 then nm (at_ 10 (K 1) a1) (fun r2 => nm (imin a2 r2) (fun r3 => some r3)) else some 1))
set_option maxHeartbeats 4000000 in
set_option maxRecDepth 100000 in
theorem c_X0_paidByGuest {l : Launch} {D : va_G} {cI cR : ClassId} {ad : Nat → Nat} {A : Nat → Prop} {O : XO} {K : RK}  {a1 : Int32} {a2 : Int32} {r : Int32}  (hf : f_X0_paidByGuest K a1 a2 = some r) : MC l yX0_paidByGuest wsX0_paidByGuest 3 64 D cI cR A [.ref (ad 1), .int a1, .int a2] (xws cI cR ad O K) (some (.int r)) (xws cI cR ad O K) := by
  refine Met.ofW (cc := cX0_paidByGuest) (maxL := 3) (ret := (some .int)) (by decide) rfl ?_
  intro p e s m args below meth c s₁ B hml hv
  obtain ⟨rfl, hw⟩ := q_start hv
  have hx := B.exec
  have hb := B.bytes
  have hr := B.returns
  have hts := atoms_spec (ws := wsX0_paidByGuest) B.pre
  have hown : s.vm.findClass RX0 = some m.cls := findClass_of_methodNamed B.named
  have hlocks := B.notSynchronized
  have hiX0 : ∀ w ∈ wsX00, w ∈ wsX0_paidByGuest := by decide +kernel
  have hiX1 : ∀ w ∈ wsX10, w ∈ wsX0_paidByGuest := by decide +kernel
  have hl := lv_entry ([.ref (ad 1), .int a1, .int a2]) (n := 3) (Nat.le_of_ble_eq_true rfl)
  rw [lg_entry_eq]
  generalize (lg_sl ([.ref (ad 1), .int a1, .int a2]) ++ List.replicate (3 - (lg_sl ([.ref (ad 1), .int a1, .int a2])).length) Slot.unset).toArray = ls at hl ⊢
  have hl : lv_has ls 3 [(0, .ref (ad 1)), (1, .int a1), (2, .int a2)] := hl
  unfold f_X0_paidByGuest at hf
  obtain ⟨H, eH⟩ : ∃ H, H = s.heap := ⟨_, rfl⟩
  obtain ⟨locs, eL⟩ : ∃ L : List Loc, L = [] := ⟨_, rfl⟩
  rw [← eH, ← eL] at hw ⊢
  clear eH eL
  refine lv_aload_n hx hb dX0_paidByGuest_0 rfl (lv_at hl 0 rfl) ?_
  refine lv_iload_n hx hb dX0_paidByGuest_1 rfl (lv_at hl 1 rfl) ?_
  obtain ⟨r1, hr1, hf⟩ := bndS hf
  refine q_callV (rest := []) (st1 := [.int r1]) [.int a1] ⟨hx, hb, hml, hown, hts⟩ (c_X0_passesMasked hr1) (cwV 1 hts gX0_paidByGuest_X0_passesMasked rfl rfl rfl (by decide +kernel) ⟨Nat.le_of_ble_eq_true rfl, Nat.le_of_ble_eq_true rfl⟩) hw xa_1 rfl rfl hl.1 rfl (Nat.le_of_ble_eq_true rfl) dX0_paidByGuest_2 ⟨Nat.zero_le _, Nat.zero_le _⟩ rfl (fun H locs hw => ?_)
  refine lv_if_eq (tgt := 12) hx hb dX0_paidByGuest_5 (by decide) (fun hc => ?_) (fun hc => ?_)
  · have hf := iteT hf hc
    refine lv_iload_n hx hb dX0_paidByGuest_12 rfl (lv_at hl 2 rfl) ?_
    refine lv_aload_n hx hb dX0_paidByGuest_13 rfl (lv_at hl 0 rfl) ?_
    refine q_get hx hb hts hiX0 hown hw 1 xa_1 rfl 0 (by decide) (hts (.fieldLink RX0 12 "LaceRanks$Carnival" "guests" "LLaceRanks$Guests;") (by decide +kernel)) rfl dX0_paidByGuest_14 ?_
    refine q_getN hx hb hts hiX1 hown hw 2 xa_2 rfl 1 (by decide) (nw_X0_71 hw.2.2.2.2) rfl dX0_paidByGuest_17 ?_
    refine lv_iload_n hx hb dX0_paidByGuest_20 rfl (lv_at hl 1 rfl) ?_
    obtain ⟨r2, hr2, hf⟩ := nmE hf
    refine q_callSN (rest := [.int a2]) (st1 := [.int r2, .int a2]) [.ref (ad 4), .int a1] ⟨hx, hb, hml, hown, hts⟩ (c_X5_at (q0 := 4) xa_4 hr2) ⟨va_cnB 2 hts gX0_paidByGuest_X5_at_n67 rfl rfl rfl (nw_X0_67 hw.2.2.2.2) (hts (.initialized RX5) (by decide +kernel)) (by decide +kernel) ⟨Nat.le_of_ble_eq_true rfl, Nat.le_of_ble_eq_true rfl⟩, (hts (.static yX5_at) (by decide +kernel)), trivial⟩ hw rfl hl.1 rfl (Nat.le_of_ble_eq_true rfl) dX0_paidByGuest_21 ⟨Nat.zero_le _, Nat.zero_le _⟩ rfl (fun H locs hw => ?_)
    obtain ⟨r3, hr3, hf⟩ := nmE hf
    refine va_mmin hx hb (hml.trans hl.1.symm) hown (hts (.methodLink RX0 84 Lib.Math.min.name) (by decide +kernel)) (hts (.static Lib.Math.min.name) (by decide +kernel)) (hts (.initialized "java/lang/Math") (by decide +kernel)) (hts (.code Lib.Math.min.name Lib.Math.min.code 2 (some .int)) (by decide +kernel)) (Nat.le_of_ble_eq_true rfl) (Nat.le_of_ble_eq_true rfl) (Nat.le_of_ble_eq_true rfl) (Nat.le_of_ble_eq_true rfl) dX0_paidByGuest_24 ?_
    refine q_is hr3 ?_
    cases hf
    exact q_iret hx hb hr hlocks hw dX0_paidByGuest_27
  · have hf := iteF hf hc
    refine lv_iconst (v := 1) hx hb dX0_paidByGuest_8 (by decide) ?_
    refine lv_goto (tgt := 27) hx hb dX0_paidByGuest_9 (by decide) ?_
    cases hf
    exact q_iret hx hb hr hlocks hw dX0_paidByGuest_27

def f_X0_leftOfFine (K : RK)  (a1 : Int32) (a2 : Int32) : Option Int32 := nm (at_ 10 (K 1) a1) (fun r1 => nm (imax (a2 - r1) 0) (fun r2 => some r2))
set_option maxHeartbeats 4000000 in
set_option maxRecDepth 100000 in
theorem c_X0_leftOfFine {l : Launch} {D : va_G} {cI cR : ClassId} {ad : Nat → Nat} {A : Nat → Prop} {O : XO} {K : RK}  {a1 : Int32} {a2 : Int32} {r : Int32}  (hf : f_X0_leftOfFine K a1 a2 = some r) : MC l yX0_leftOfFine wsX0_leftOfFine 1 21 D cI cR A [.ref (ad 1), .int a1, .int a2] (xws cI cR ad O K) (some (.int r)) (xws cI cR ad O K) := by
  refine Met.ofW (cc := cX0_leftOfFine) (maxL := 3) (ret := (some .int)) (by decide) rfl ?_
  intro p e s m args below meth c s₁ B hml hv
  obtain ⟨rfl, hw⟩ := q_start hv
  have hx := B.exec
  have hb := B.bytes
  have hr := B.returns
  have hts := atoms_spec (ws := wsX0_leftOfFine) B.pre
  have hown : s.vm.findClass RX0 = some m.cls := findClass_of_methodNamed B.named
  have hlocks := B.notSynchronized
  have hiX0 : ∀ w ∈ wsX00, w ∈ wsX0_leftOfFine := by decide +kernel
  have hiX1 : ∀ w ∈ wsX10, w ∈ wsX0_leftOfFine := by decide +kernel
  have hl := lv_entry ([.ref (ad 1), .int a1, .int a2]) (n := 3) (Nat.le_of_ble_eq_true rfl)
  rw [lg_entry_eq]
  generalize (lg_sl ([.ref (ad 1), .int a1, .int a2]) ++ List.replicate (3 - (lg_sl ([.ref (ad 1), .int a1, .int a2])).length) Slot.unset).toArray = ls at hl ⊢
  have hl : lv_has ls 3 [(0, .ref (ad 1)), (1, .int a1), (2, .int a2)] := hl
  unfold f_X0_leftOfFine at hf
  obtain ⟨H, eH⟩ : ∃ H, H = s.heap := ⟨_, rfl⟩
  obtain ⟨locs, eL⟩ : ∃ L : List Loc, L = [] := ⟨_, rfl⟩
  rw [← eH, ← eL] at hw ⊢
  clear eH eL
  refine lv_iload_n hx hb dX0_leftOfFine_0 rfl (lv_at hl 2 rfl) ?_
  refine lv_aload_n hx hb dX0_leftOfFine_1 rfl (lv_at hl 0 rfl) ?_
  refine q_get hx hb hts hiX0 hown hw 1 xa_1 rfl 0 (by decide) (hts (.fieldLink RX0 12 "LaceRanks$Carnival" "guests" "LLaceRanks$Guests;") (by decide +kernel)) rfl dX0_leftOfFine_2 ?_
  refine q_getN hx hb hts hiX1 hown hw 2 xa_2 rfl 1 (by decide) (nw_X0_71 hw.2.2.2.2) rfl dX0_leftOfFine_5 ?_
  refine lv_iload_n hx hb dX0_leftOfFine_8 rfl (lv_at hl 1 rfl) ?_
  obtain ⟨r1, hr1, hf⟩ := nmE hf
  refine q_callSN (rest := [.int a2]) (st1 := [.int r1, .int a2]) [.ref (ad 4), .int a1] ⟨hx, hb, hml, hown, hts⟩ (c_X5_at (q0 := 4) xa_4 hr1) ⟨va_cnB 2 hts gX0_leftOfFine_X5_at_n67 rfl rfl rfl (nw_X0_67 hw.2.2.2.2) (hts (.initialized RX5) (by decide +kernel)) (by decide +kernel) ⟨Nat.le_of_ble_eq_true rfl, Nat.le_of_ble_eq_true rfl⟩, (hts (.static yX5_at) (by decide +kernel)), trivial⟩ hw rfl hl.1 rfl (Nat.le_of_ble_eq_true rfl) dX0_leftOfFine_9 ⟨Nat.zero_le _, Nat.zero_le _⟩ rfl (fun H locs hw => ?_)
  refine lv_isub hx hb dX0_leftOfFine_12 ?_
  refine lv_iconst (v := 0) hx hb dX0_leftOfFine_13 (by decide) ?_
  obtain ⟨r2, hr2, hf⟩ := nmE hf
  refine va_mmax hx hb (hml.trans hl.1.symm) hown (hts (.methodLink RX0 103 Lib.Math.max.name) (by decide +kernel)) (hts (.static Lib.Math.max.name) (by decide +kernel)) (hts (.initialized "java/lang/Math") (by decide +kernel)) (hts (.code Lib.Math.max.name Lib.Math.max.code 2 (some .int)) (by decide +kernel)) (Nat.le_of_ble_eq_true rfl) (Nat.le_of_ble_eq_true rfl) (Nat.le_of_ble_eq_true rfl) (Nat.le_of_ble_eq_true rfl) dX0_leftOfFine_14 ?_
  refine q_is hr2 ?_
  cases hf
  exact q_iret hx hb hr hlocks hw dX0_leftOfFine_17

def f_X0_paidByLender (K : RK)  (a1 : Int32) (a2 : Int32) : Option Int32 := nm (at_ 10 (K 4) a1) (fun r1 => (if r1 = (-1) then some 0 else nm (at_ 10 (K 1) r1) (fun r2 => nm (imin (a2 / 2) r2) (fun r3 => some r3))))
set_option maxHeartbeats 4000000 in
set_option maxRecDepth 100000 in
theorem c_X0_paidByLender {l : Launch} {D : va_G} {cI cR : ClassId} {ad : Nat → Nat} {A : Nat → Prop} {O : XO} {K : RK}  {a1 : Int32} {a2 : Int32} {r : Int32}  (hf : f_X0_paidByLender K a1 a2 = some r) : MC l yX0_paidByLender wsX0_paidByLender 1 21 D cI cR A [.ref (ad 1), .int a1, .int a2] (xws cI cR ad O K) (some (.int r)) (xws cI cR ad O K) := by
  refine Met.ofW (cc := cX0_paidByLender) (maxL := 4) (ret := (some .int)) (by decide) rfl ?_
  intro p e s m args below meth c s₁ B hml hv
  obtain ⟨rfl, hw⟩ := q_start hv
  have hx := B.exec
  have hb := B.bytes
  have hr := B.returns
  have hts := atoms_spec (ws := wsX0_paidByLender) B.pre
  have hown : s.vm.findClass RX0 = some m.cls := findClass_of_methodNamed B.named
  have hlocks := B.notSynchronized
  have hiX0 : ∀ w ∈ wsX00, w ∈ wsX0_paidByLender := by decide +kernel
  have hiX1 : ∀ w ∈ wsX10, w ∈ wsX0_paidByLender := by decide +kernel
  have hl := lv_entry ([.ref (ad 1), .int a1, .int a2]) (n := 4) (Nat.le_of_ble_eq_true rfl)
  rw [lg_entry_eq]
  generalize (lg_sl ([.ref (ad 1), .int a1, .int a2]) ++ List.replicate (4 - (lg_sl ([.ref (ad 1), .int a1, .int a2])).length) Slot.unset).toArray = ls at hl ⊢
  have hl : lv_has ls 4 [(0, .ref (ad 1)), (1, .int a1), (2, .int a2)] := hl
  unfold f_X0_paidByLender at hf
  obtain ⟨H, eH⟩ : ∃ H, H = s.heap := ⟨_, rfl⟩
  obtain ⟨locs, eL⟩ : ∃ L : List Loc, L = [] := ⟨_, rfl⟩
  rw [← eH, ← eL] at hw ⊢
  clear eH eL
  refine lv_aload_n hx hb dX0_paidByLender_0 rfl (lv_at hl 0 rfl) ?_
  refine q_get hx hb hts hiX0 hown hw 1 xa_1 rfl 0 (by decide) (hts (.fieldLink RX0 12 "LaceRanks$Carnival" "guests" "LLaceRanks$Guests;") (by decide +kernel)) rfl dX0_paidByLender_1 ?_
  refine q_getN hx hb hts hiX1 hown hw 2 xa_2 rfl 4 (by decide) (nw_X0_121 hw.2.2.2.2) rfl dX0_paidByLender_4 ?_
  refine lv_iload_n hx hb dX0_paidByLender_7 rfl (lv_at hl 1 rfl) ?_
  obtain ⟨r1, hr1, hf⟩ := nmE hf
  refine q_callSN (rest := []) (st1 := [.int r1]) [.ref (ad 7), .int a1] ⟨hx, hb, hml, hown, hts⟩ (c_X5_at (q0 := 7) xa_7 hr1) ⟨va_cnB 2 hts gX0_paidByLender_X5_at_n67 rfl rfl rfl (nw_X0_67 hw.2.2.2.2) (hts (.initialized RX5) (by decide +kernel)) (by decide +kernel) ⟨Nat.le_of_ble_eq_true rfl, Nat.le_of_ble_eq_true rfl⟩, (hts (.static yX5_at) (by decide +kernel)), trivial⟩ hw rfl hl.1 rfl (Nat.le_of_ble_eq_true rfl) dX0_paidByLender_8 ⟨Nat.zero_le _, Nat.zero_le _⟩ rfl (fun H locs hw => ?_)
  refine lv_istore_n (lv' := [(3, .int r1), (0, .ref (ad 1)), (1, .int a1), (2, .int a2)]) hx hb dX0_paidByLender_11 rfl hl (by decide) rfl (fun ls hl => ?_)
  refine lv_iload_n hx hb dX0_paidByLender_12 rfl (lv_at hl 0 rfl) ?_
  refine lv_iconst (v := (-1)) hx hb dX0_paidByLender_13 (by decide) ?_
  refine lv_icmp_ne (tgt := 21) hx hb dX0_paidByLender_14 (by decide) (fun hc => ?_) (fun hc => ?_)
  · have hf := iteF hf hc
    refine lv_iload_n hx hb dX0_paidByLender_21 rfl (lv_at hl 3 rfl) ?_
    refine lv_iconst (v := 2) hx hb dX0_paidByLender_22 (by decide) ?_
    refine lv_idiv hx hb dX0_paidByLender_23 (by decide) ?_
    refine lv_aload_n hx hb dX0_paidByLender_24 rfl (lv_at hl 1 rfl) ?_
    refine q_get hx hb hts hiX0 hown hw 1 xa_1 rfl 0 (by decide) (hts (.fieldLink RX0 12 "LaceRanks$Carnival" "guests" "LLaceRanks$Guests;") (by decide +kernel)) rfl dX0_paidByLender_25 ?_
    refine q_getN hx hb hts hiX1 hown hw 2 xa_2 rfl 1 (by decide) (nw_X0_71 hw.2.2.2.2) rfl dX0_paidByLender_28 ?_
    refine lv_iload_n hx hb dX0_paidByLender_31 rfl (lv_at hl 0 rfl) ?_
    obtain ⟨r2, hr2, hf⟩ := nmE hf
    refine q_callSN (rest := [.int (a2 / 2)]) (st1 := [.int r2, .int (a2 / 2)]) [.ref (ad 4), .int r1] ⟨hx, hb, hml, hown, hts⟩ (c_X5_at (q0 := 4) xa_4 hr2) ⟨va_cnB 2 hts gX0_paidByLender_X5_at_n67 rfl rfl rfl (nw_X0_67 hw.2.2.2.2) (hts (.initialized RX5) (by decide +kernel)) (by decide +kernel) ⟨Nat.le_of_ble_eq_true rfl, Nat.le_of_ble_eq_true rfl⟩, (hts (.static yX5_at) (by decide +kernel)), trivial⟩ hw rfl hl.1 rfl (Nat.le_of_ble_eq_true rfl) dX0_paidByLender_32 ⟨Nat.zero_le _, Nat.zero_le _⟩ rfl (fun H locs hw => ?_)
    obtain ⟨r3, hr3, hf⟩ := nmE hf
    refine va_mmin hx hb (hml.trans hl.1.symm) hown (hts (.methodLink RX0 84 Lib.Math.min.name) (by decide +kernel)) (hts (.static Lib.Math.min.name) (by decide +kernel)) (hts (.initialized "java/lang/Math") (by decide +kernel)) (hts (.code Lib.Math.min.name Lib.Math.min.code 2 (some .int)) (by decide +kernel)) (Nat.le_of_ble_eq_true rfl) (Nat.le_of_ble_eq_true rfl) (Nat.le_of_ble_eq_true rfl) (Nat.le_of_ble_eq_true rfl) dX0_paidByLender_35 ?_
    refine q_is hr3 ?_
    cases hf
    exact q_iret hx hb hr hlocks hw dX0_paidByLender_38
  · have hf := iteT hf hc
    refine lv_iconst (v := 0) hx hb dX0_paidByLender_17 (by decide) ?_
    refine lv_goto (tgt := 38) hx hb dX0_paidByLender_18 (by decide) ?_
    cases hf
    exact q_iret hx hb hr hlocks hw dX0_paidByLender_38

def f_X0_gateNumber (K : RK)  (a1 : Int32) (a2 : Int32) (a3 : Int32) : Option Int32 := bnd (f_X0_ellsTooMuch K a1 a2) (fun r1 => nm (at_ 6 (K 10) 3) (fun r2 => bnd (f_X0_leftOfFine K a1 (r1 * r2)) (fun r3 => (if a3 = 0 then some r1 else (if a3 = 1 then some (r1 * r2) else (if a3 = 2 then bnd (f_X0_paidByGuest K a1 (r1 * r2)) (fun r4 => some r4) else (nm (at_ 10 (K 2) a1) (fun r5 => bnd (f_X0_paidByLender K a1 r3) (fun r6 => some ((r5 + r3) - r6))))))))))
set_option maxHeartbeats 4000000 in
set_option maxRecDepth 100000 in
theorem c_X0_gateNumber {l : Launch} {D : va_G} {cI cR : ClassId} {ad : Nat → Nat} {A : Nat → Prop} {O : XO} {K : RK}  {a1 : Int32} {a2 : Int32} {a3 : Int32} {r : Int32}  (hf : f_X0_gateNumber K a1 a2 a3 = some r) : MC l yX0_gateNumber wsX0_gateNumber 4 87 D cI cR A [.ref (ad 1), .int a1, .int a2, .int a3] (xws cI cR ad O K) (some (.int r)) (xws cI cR ad O K) := by
  refine Met.ofW (cc := cX0_gateNumber) (maxL := 7) (ret := (some .int)) (by decide) rfl ?_
  intro p e s m args below meth c s₁ B hml hv
  obtain ⟨rfl, hw⟩ := q_start hv
  have hx := B.exec
  have hb := B.bytes
  have hr := B.returns
  have hts := atoms_spec (ws := wsX0_gateNumber) B.pre
  have hown : s.vm.findClass RX0 = some m.cls := findClass_of_methodNamed B.named
  have hlocks := B.notSynchronized
  have hiX0 : ∀ w ∈ wsX00, w ∈ wsX0_gateNumber := by decide +kernel
  have hiX1 : ∀ w ∈ wsX10, w ∈ wsX0_gateNumber := by decide +kernel
  have hl := lv_entry ([.ref (ad 1), .int a1, .int a2, .int a3]) (n := 7) (Nat.le_of_ble_eq_true rfl)
  rw [lg_entry_eq]
  generalize (lg_sl ([.ref (ad 1), .int a1, .int a2, .int a3]) ++ List.replicate (7 - (lg_sl ([.ref (ad 1), .int a1, .int a2, .int a3])).length) Slot.unset).toArray = ls at hl ⊢
  have hl : lv_has ls 7 [(0, .ref (ad 1)), (1, .int a1), (2, .int a2), (3, .int a3)] := hl
  unfold f_X0_gateNumber at hf
  obtain ⟨H, eH⟩ : ∃ H, H = s.heap := ⟨_, rfl⟩
  obtain ⟨locs, eL⟩ : ∃ L : List Loc, L = [] := ⟨_, rfl⟩
  rw [← eH, ← eL] at hw ⊢
  clear eH eL
  refine lv_aload_n hx hb dX0_gateNumber_0 rfl (lv_at hl 0 rfl) ?_
  refine lv_iload_n hx hb dX0_gateNumber_1 rfl (lv_at hl 1 rfl) ?_
  refine lv_iload_n hx hb dX0_gateNumber_2 rfl (lv_at hl 2 rfl) ?_
  obtain ⟨r1, hr1, hf⟩ := bndS hf
  refine q_callV (rest := []) (st1 := [.int r1]) [.int a1, .int a2] ⟨hx, hb, hml, hown, hts⟩ (c_X0_ellsTooMuch hr1) (cwV 2 hts gX0_gateNumber_X0_ellsTooMuch rfl rfl rfl (by decide +kernel) ⟨Nat.le_of_ble_eq_true rfl, Nat.le_of_ble_eq_true rfl⟩) hw xa_1 rfl rfl hl.1 rfl (Nat.le_of_ble_eq_true rfl) dX0_gateNumber_3 ⟨Nat.zero_le _, Nat.zero_le _⟩ rfl (fun H locs hw => ?_)
  refine lv_istore (lv' := [(4, .int r1), (0, .ref (ad 1)), (1, .int a1), (2, .int a2), (3, .int a3)]) hx hb dX0_gateNumber_6 hl (by decide) rfl (fun ls hl => ?_)
  refine lv_iload hx hb dX0_gateNumber_8 (lv_at hl 0 rfl) ?_
  refine lv_aload_n hx hb dX0_gateNumber_10 rfl (lv_at hl 1 rfl) ?_
  refine q_get hx hb hts hiX0 hown hw 1 xa_1 rfl 2 (by decide) (hts (.fieldLink RX0 25 "LaceRanks$Carnival" "settings" "[I") (by decide +kernel)) rfl dX0_gateNumber_11 ?_
  refine lv_iconst (v := 3) hx hb dX0_gateNumber_14 (by decide) ?_
  obtain ⟨r2, hr2, hf⟩ := nmE hf
  refine q_callSN (rest := [.int r1]) (st1 := [.int r2, .int r1]) [.ref (ad 14), .int 3] ⟨hx, hb, hml, hown, hts⟩ (c_X5_at (q0 := 14) xa_14 hr2) ⟨va_cnB 2 hts gX0_gateNumber_X5_at_n67 rfl rfl rfl (nw_X0_67 hw.2.2.2.2) (hts (.initialized RX5) (by decide +kernel)) (by decide +kernel) ⟨Nat.le_of_ble_eq_true rfl, Nat.le_of_ble_eq_true rfl⟩, (hts (.static yX5_at) (by decide +kernel)), trivial⟩ hw rfl hl.1 rfl (Nat.le_of_ble_eq_true rfl) dX0_gateNumber_15 ⟨Nat.zero_le _, Nat.zero_le _⟩ rfl (fun H locs hw => ?_)
  refine lv_imul hx hb dX0_gateNumber_18 ?_
  refine lv_istore (lv' := [(5, .int (r1 * r2)), (4, .int r1), (0, .ref (ad 1)), (1, .int a1), (2, .int a2), (3, .int a3)]) hx hb dX0_gateNumber_19 hl (by decide) rfl (fun ls hl => ?_)
  refine lv_aload_n hx hb dX0_gateNumber_21 rfl (lv_at hl 2 rfl) ?_
  refine lv_iload_n hx hb dX0_gateNumber_22 rfl (lv_at hl 3 rfl) ?_
  refine lv_iload hx hb dX0_gateNumber_23 (lv_at hl 0 rfl) ?_
  obtain ⟨r3, hr3, hf⟩ := bndS hf
  refine q_callV (rest := []) (st1 := [.int r3]) [.int a1, .int (r1 * r2)] ⟨hx, hb, hml, hown, hts⟩ (c_X0_leftOfFine hr3) (cwV 2 hts gX0_gateNumber_X0_leftOfFine rfl rfl rfl (by decide +kernel) ⟨Nat.le_of_ble_eq_true rfl, Nat.le_of_ble_eq_true rfl⟩) hw xa_1 rfl rfl hl.1 rfl (Nat.le_of_ble_eq_true rfl) dX0_gateNumber_25 ⟨Nat.zero_le _, Nat.zero_le _⟩ rfl (fun H locs hw => ?_)
  refine lv_istore (lv' := [(6, .int r3), (5, .int (r1 * r2)), (4, .int r1), (0, .ref (ad 1)), (1, .int a1), (2, .int a2), (3, .int a3)]) hx hb dX0_gateNumber_28 hl (by decide) rfl (fun ls hl => ?_)
  refine lv_iload_n hx hb dX0_gateNumber_30 rfl (lv_at hl 6 rfl) ?_
  by_cases hc0 : a3 = 0
  · have hf := iteT hf hc0
    refine lv_tableIn (tgt := 56) hx hb dX0_gateNumber_31 (by rw [hc0]; decide) (by rw [hc0]; decide) (by rw [hc0]; rfl) (by decide) ?_
    refine lv_iload hx hb dX0_gateNumber_56 (lv_at hl 2 rfl) ?_
    cases hf
    exact q_iret hx hb hr hlocks hw dX0_gateNumber_58
  replace hf := iteF hf hc0
  by_cases hc1 : a3 = 1
  · have hf := iteT hf hc1
    refine lv_tableIn (tgt := 59) hx hb dX0_gateNumber_31 (by rw [hc1]; decide) (by rw [hc1]; decide) (by rw [hc1]; rfl) (by decide) ?_
    refine lv_iload hx hb dX0_gateNumber_59 (lv_at hl 1 rfl) ?_
    cases hf
    exact q_iret hx hb hr hlocks hw dX0_gateNumber_61
  replace hf := iteF hf hc1
  by_cases hc2 : a3 = 2
  · have hf := iteT hf hc2
    refine lv_tableIn (tgt := 62) hx hb dX0_gateNumber_31 (by rw [hc2]; decide) (by rw [hc2]; decide) (by rw [hc2]; rfl) (by decide) ?_
    refine lv_aload_n hx hb dX0_gateNumber_62 rfl (lv_at hl 3 rfl) ?_
    refine lv_iload_n hx hb dX0_gateNumber_63 rfl (lv_at hl 4 rfl) ?_
    refine lv_iload hx hb dX0_gateNumber_64 (lv_at hl 1 rfl) ?_
    obtain ⟨r4, hr4, hf⟩ := bndS hf
    refine q_callV (rest := []) (st1 := [.int r4]) [.int a1, .int (r1 * r2)] ⟨hx, hb, hml, hown, hts⟩ (c_X0_paidByGuest hr4) (cwV 2 hts gX0_gateNumber_X0_paidByGuest rfl rfl rfl (by decide +kernel) ⟨Nat.le_of_ble_eq_true rfl, Nat.le_of_ble_eq_true rfl⟩) hw xa_1 rfl rfl hl.1 rfl (Nat.le_of_ble_eq_true rfl) dX0_gateNumber_66 ⟨Nat.zero_le _, Nat.zero_le _⟩ rfl (fun H locs hw => ?_)
    cases hf
    exact q_iret hx hb hr hlocks hw dX0_gateNumber_69
  replace hf := iteF hf hc2
  have nhc0 := ne_toInt hc0 (k := 0) (by decide)
  have nhc1 := ne_toInt hc1 (k := 1) (by decide)
  have nhc2 := ne_toInt hc2 (k := 2) (by decide)
  refine lv_tableOut (tgt := 70) hx hb dX0_gateNumber_31 (by omega) (by decide) ?_
  refine lv_aload_n hx hb dX0_gateNumber_70 rfl (lv_at hl 3 rfl) ?_
  refine q_get hx hb hts hiX0 hown hw 1 xa_1 rfl 0 (by decide) (hts (.fieldLink RX0 12 "LaceRanks$Carnival" "guests" "LLaceRanks$Guests;") (by decide +kernel)) rfl dX0_gateNumber_71 ?_
  refine q_getN hx hb hts hiX1 hown hw 2 xa_2 rfl 2 (by decide) (nw_X0_64 hw.2.2.2.2) rfl dX0_gateNumber_74 ?_
  refine lv_iload_n hx hb dX0_gateNumber_77 rfl (lv_at hl 4 rfl) ?_
  obtain ⟨r5, hr5, hf⟩ := nmE hf
  refine q_callSN (rest := []) (st1 := [.int r5]) [.ref (ad 5), .int a1] ⟨hx, hb, hml, hown, hts⟩ (c_X5_at (q0 := 5) xa_5 hr5) ⟨va_cnB 2 hts gX0_gateNumber_X5_at_n67 rfl rfl rfl (nw_X0_67 hw.2.2.2.2) (hts (.initialized RX5) (by decide +kernel)) (by decide +kernel) ⟨Nat.le_of_ble_eq_true rfl, Nat.le_of_ble_eq_true rfl⟩, (hts (.static yX5_at) (by decide +kernel)), trivial⟩ hw rfl hl.1 rfl (Nat.le_of_ble_eq_true rfl) dX0_gateNumber_78 ⟨Nat.zero_le _, Nat.zero_le _⟩ rfl (fun H locs hw => ?_)
  refine lv_iload hx hb dX0_gateNumber_81 (lv_at hl 0 rfl) ?_
  refine lv_iadd hx hb dX0_gateNumber_83 ?_
  refine lv_aload_n hx hb dX0_gateNumber_84 rfl (lv_at hl 3 rfl) ?_
  refine lv_iload_n hx hb dX0_gateNumber_85 rfl (lv_at hl 4 rfl) ?_
  refine lv_iload hx hb dX0_gateNumber_86 (lv_at hl 0 rfl) ?_
  obtain ⟨r6, hr6, hf⟩ := bndS hf
  refine q_callV (rest := [.int (r5 + r3)]) (st1 := [.int r6, .int (r5 + r3)]) [.int a1, .int r3] ⟨hx, hb, hml, hown, hts⟩ (c_X0_paidByLender hr6) (cwV 2 hts gX0_gateNumber_X0_paidByLender rfl rfl rfl (by decide +kernel) ⟨Nat.le_of_ble_eq_true rfl, Nat.le_of_ble_eq_true rfl⟩) hw xa_1 rfl rfl hl.1 rfl (Nat.le_of_ble_eq_true rfl) dX0_gateNumber_88 ⟨Nat.zero_le _, Nat.zero_le _⟩ rfl (fun H locs hw => ?_)
  refine lv_isub hx hb dX0_gateNumber_91 ?_
  cases hf
  exact q_iret hx hb hr hlocks hw dX0_gateNumber_92

def f_X0_cutLace (K : RK)  (a1 : Int32) (a2 : Int32) : Option RK := nm (at_ 10 (K 3) a1) (fun r1 => nm (upR K 3 (put_ 10 (K 3) a1 (r1 - a2))) (fun K2 => nm (upS K2 11 2 ((K2 11 2) + a2)) (fun K3 => nm (upS K3 11 6 ((K3 11 6) + a2)) (fun K4 => nm (upS K4 11 5 ((K4 11 5) + 1)) (fun K5 => some K5)))))
set_option maxHeartbeats 4000000 in
set_option maxRecDepth 100000 in
theorem c_X0_cutLace {l : Launch} {D : va_G} {cI cR : ClassId} {ad : Nat → Nat} {A : Nat → Prop} {O : XO} {K : RK} {K' : RK} {a1 : Int32} {a2 : Int32}   (hf : f_X0_cutLace K a1 a2 = some K') : MC l yX0_cutLace wsX0_cutLace 1 22 D cI cR A [.ref (ad 1), .int a1, .int a2] (xws cI cR ad O K) none (xws cI cR ad O K') := by
  refine Met.ofW (cc := cX0_cutLace) (maxL := 3) (ret := none) (by decide) rfl ?_
  intro p e s m args below meth c s₁ B hml hv
  obtain ⟨rfl, hw⟩ := q_start hv
  have hx := B.exec
  have hb := B.bytes
  have hr := B.returns
  have hts := atoms_spec (ws := wsX0_cutLace) B.pre
  have hown : s.vm.findClass RX0 = some m.cls := findClass_of_methodNamed B.named
  have hlocks := B.notSynchronized
  have hiX0 : ∀ w ∈ wsX00, w ∈ wsX0_cutLace := by decide +kernel
  have hiX1 : ∀ w ∈ wsX10, w ∈ wsX0_cutLace := by decide +kernel
  have hl := lv_entry ([.ref (ad 1), .int a1, .int a2]) (n := 3) (Nat.le_of_ble_eq_true rfl)
  rw [lg_entry_eq]
  generalize (lg_sl ([.ref (ad 1), .int a1, .int a2]) ++ List.replicate (3 - (lg_sl ([.ref (ad 1), .int a1, .int a2])).length) Slot.unset).toArray = ls at hl ⊢
  have hl : lv_has ls 3 [(0, .ref (ad 1)), (1, .int a1), (2, .int a2)] := hl
  unfold f_X0_cutLace at hf
  obtain ⟨H, eH⟩ : ∃ H, H = s.heap := ⟨_, rfl⟩
  obtain ⟨locs, eL⟩ : ∃ L : List Loc, L = [] := ⟨_, rfl⟩
  rw [← eH, ← eL] at hw ⊢
  clear eH eL
  refine lv_aload_n hx hb dX0_cutLace_0 rfl (lv_at hl 0 rfl) ?_
  refine q_get hx hb hts hiX0 hown hw 1 xa_1 rfl 0 (by decide) (hts (.fieldLink RX0 12 "LaceRanks$Carnival" "guests" "LLaceRanks$Guests;") (by decide +kernel)) rfl dX0_cutLace_1 ?_
  refine q_getN hx hb hts hiX1 hown hw 2 xa_2 rfl 3 (by decide) (nw_X0_74 hw.2.2.2.2) rfl dX0_cutLace_4 ?_
  refine lv_iload_n hx hb dX0_cutLace_7 rfl (lv_at hl 1 rfl) ?_
  refine lv_aload_n hx hb dX0_cutLace_8 rfl (lv_at hl 0 rfl) ?_
  refine q_get hx hb hts hiX0 hown hw 1 xa_1 rfl 0 (by decide) (hts (.fieldLink RX0 12 "LaceRanks$Carnival" "guests" "LLaceRanks$Guests;") (by decide +kernel)) rfl dX0_cutLace_9 ?_
  refine q_getN hx hb hts hiX1 hown hw 2 xa_2 rfl 3 (by decide) (nw_X0_74 hw.2.2.2.2) rfl dX0_cutLace_12 ?_
  refine lv_iload_n hx hb dX0_cutLace_15 rfl (lv_at hl 1 rfl) ?_
  obtain ⟨r1, hr1, hf⟩ := nmE hf
  refine q_callSN (rest := [.int a1, .ref (ad 6)]) (st1 := [.int r1, .int a1, .ref (ad 6)]) [.ref (ad 6), .int a1] ⟨hx, hb, hml, hown, hts⟩ (c_X5_at (q0 := 6) xa_6 hr1) ⟨va_cnB 2 hts gX0_cutLace_X5_at_n67 rfl rfl rfl (nw_X0_67 hw.2.2.2.2) (hts (.initialized RX5) (by decide +kernel)) (by decide +kernel) ⟨Nat.le_of_ble_eq_true rfl, Nat.le_of_ble_eq_true rfl⟩, (hts (.static yX5_at) (by decide +kernel)), trivial⟩ hw rfl hl.1 rfl (Nat.le_of_ble_eq_true rfl) dX0_cutLace_16 ⟨Nat.zero_le _, Nat.zero_le _⟩ rfl (fun H locs hw => ?_)
  refine lv_iload_n hx hb dX0_cutLace_19 rfl (lv_at hl 2 rfl) ?_
  refine lv_isub hx hb dX0_cutLace_20 ?_
  obtain ⟨K2, hK2, hf⟩ := nmE hf
  refine q_callSN (rest := []) (st1 := []) [.ref (ad 6), .int a1, .int (r1 - a2)] ⟨hx, hb, hml, hown, hts⟩ (c_X5_put (q0 := 6) xa_6 (xs_6.trans (congrArg (fun z => (xws cI cR ad O z)) hK2.symm))) ⟨va_cnB 3 hts gX0_cutLace_X5_put_n90 rfl rfl rfl (nw_X0_90 hw.2.2.2.2) (hts (.initialized RX5) (by decide +kernel)) (by decide +kernel) ⟨Nat.le_of_ble_eq_true rfl, Nat.le_of_ble_eq_true rfl⟩, (hts (.static yX5_put) (by decide +kernel)), trivial⟩ hw rfl hl.1 rfl (Nat.le_of_ble_eq_true rfl) dX0_cutLace_21 ⟨Nat.zero_le _, Nat.zero_le _⟩ rfl (fun H locs hw => ?_)
  refine lv_aload_n hx hb dX0_cutLace_24 rfl (lv_at hl 0 rfl) ?_
  refine lv_dup hx hb dX0_cutLace_25 rfl ?_
  refine q_get hx hb hts hiX0 hown hw 1 xa_1 rfl 5 (by decide) (hts (.fieldLink RX0 149 "LaceRanks$Carnival" "laceChest" "I") (by decide +kernel)) rfl dX0_cutLace_26 ?_
  refine lv_iload_n hx hb dX0_cutLace_29 rfl (lv_at hl 2 rfl) ?_
  refine lv_iadd hx hb dX0_cutLace_30 ?_
  obtain ⟨K3, hK3, hf⟩ := nmE hf
  refine q_put (ty := .int) hx hb hts hiX0 tyX0 tyX0_ok nmX0 hown hw 1 xa_1 rfl 5 (by decide) (hts (.fieldLink RX0 149 "LaceRanks$Carnival" "laceChest" "I") (by decide +kernel)) rfl (by decide +kernel) rfl rfl (Nat.le_of_ble_eq_true rfl) dX0_cutLace_31 (xs_1_5.trans (congrArg (fun z => (xws cI cR ad O z)) hK3.symm)) (fun H locs hw => ?_)
  refine lv_aload_n hx hb dX0_cutLace_34 rfl (lv_at hl 0 rfl) ?_
  refine lv_dup hx hb dX0_cutLace_35 rfl ?_
  refine q_get hx hb hts hiX0 hown hw 1 xa_1 rfl 9 (by decide) (hts (.fieldLink RX0 152 "LaceRanks$Carnival" "ellsCut" "I") (by decide +kernel)) rfl dX0_cutLace_36 ?_
  refine lv_iload_n hx hb dX0_cutLace_39 rfl (lv_at hl 2 rfl) ?_
  refine lv_iadd hx hb dX0_cutLace_40 ?_
  obtain ⟨K4, hK4, hf⟩ := nmE hf
  refine q_put (ty := .int) hx hb hts hiX0 tyX0 tyX0_ok nmX0 hown hw 1 xa_1 rfl 9 (by decide) (hts (.fieldLink RX0 152 "LaceRanks$Carnival" "ellsCut" "I") (by decide +kernel)) rfl (by decide +kernel) rfl rfl (Nat.le_of_ble_eq_true rfl) dX0_cutLace_41 (xs_1_9.trans (congrArg (fun z => (xws cI cR ad O z)) hK4.symm)) (fun H locs hw => ?_)
  refine lv_aload_n hx hb dX0_cutLace_44 rfl (lv_at hl 0 rfl) ?_
  refine lv_dup hx hb dX0_cutLace_45 rfl ?_
  refine q_get hx hb hts hiX0 hown hw 1 xa_1 rfl 8 (by decide) (hts (.fieldLink RX0 155 "LaceRanks$Carnival" "fined" "I") (by decide +kernel)) rfl dX0_cutLace_46 ?_
  refine lv_iconst (v := 1) hx hb dX0_cutLace_49 (by decide) ?_
  refine lv_iadd hx hb dX0_cutLace_50 ?_
  obtain ⟨K5, hK5, hf⟩ := nmE hf
  refine q_put (ty := .int) hx hb hts hiX0 tyX0 tyX0_ok nmX0 hown hw 1 xa_1 rfl 8 (by decide) (hts (.fieldLink RX0 155 "LaceRanks$Carnival" "fined" "I") (by decide +kernel)) rfl (by decide +kernel) rfl rfl (Nat.le_of_ble_eq_true rfl) dX0_cutLace_51 (xs_1_8.trans (congrArg (fun z => (xws cI cR ad O z)) hK5.symm)) (fun H locs hw => ?_)
  cases hf
  exact q_vret hx hb hr hlocks hw dX0_cutLace_54

def f_X0_openOnce_b162    (K : RK) (x2 : Int32) (x3 : Int32) : Option (Int32 × RK) := nm (upR K 7 (put_ 10 (K 7) x2 1)) (fun K1 => some (x3, K1))
def f_X0_openOnce_b117    (K : RK) (x2 : Int32) (x3 : Int32) (x5 : Int32) (x6 : Int32) : Option (Int32 × RK) := nm (at_ 10 (K 2) x2) (fun r1 => nm (upR K 2 (put_ 10 (K 2) x2 ((r1 + x5) - x6))) (fun K2 => (if x3 ≤ 0 then f_X0_openOnce_b162 K2 x2 x3 else bnd (f_X1_wornCoat K2 x2) (fun r3 => bnd (f_X0_cutLace K2 r3 x3) (fun K4 => f_X0_openOnce_b162 K4 x2 x3)))))
def f_X0_openOnce (K : RK)  (a1 : Int32) : Option (Int32 × RK) := bnd2 (f_X3_takeFirst K a1) (fun r1 K2 => bnd (f_X1_has K2 r1) (fun r3 => (if r3 = 0 then some (0, K2) else bnd (f_X0_ellsTooMuch K2 r1 a1) (fun r4 => nm (at_ 6 (K2 10) 3) (fun r5 => bnd (f_X0_leftOfFine K2 r1 (r4 * r5)) (fun r6 => bnd (f_X0_paidByLender K2 r1 r6) (fun r7 => bnd (f_X0_paidByGuest K2 r1 (r4 * r5)) (fun r8 => bnd2 (f_X1_payFromPurse K2 r1 r8) (fun r9 K10 => nm (upS K10 11 1 ((K2 11 1) + r9)) (fun K11 => (if r7 ≤ 0 then f_X0_openOnce_b117 K11 r1 r4 r6 r7 else nm (at_ 10 (K11 4) r1) (fun r12 => bnd2 (f_X1_payFromPurse K11 r12 r7) (fun r13 K14 => nm (upS K14 11 1 ((K11 11 1) + r13)) (fun K15 => f_X0_openOnce_b117 K15 r1 r4 r6 r7))))))))))))))
set_option maxHeartbeats 4000000 in
set_option maxRecDepth 100000 in
theorem c_X0_openOnce {l : Launch} {D : va_G} {cI cR : ClassId} {ad : Nat → Nat} {A : Nat → Prop} {O : XO} {K : RK} {K' : RK} {a1 : Int32} {r : Int32}  (hf : f_X0_openOnce K a1 = some (r, K')) : MC l yX0_openOnce wsX0_openOnce 4 87 D cI cR A [.ref (ad 1), .int a1] (xws cI cR ad O K) (some (.int r)) (xws cI cR ad O K') := by
  refine Met.ofW (cc := cX0_openOnce) (maxL := 7) (ret := (some .int)) (by decide) rfl ?_
  intro p e s m args below meth c s₁ B hml hv
  obtain ⟨rfl, hw⟩ := q_start hv
  have hx := B.exec
  have hb := B.bytes
  have hr := B.returns
  have hts := atoms_spec (ws := wsX0_openOnce) B.pre
  have hown : s.vm.findClass RX0 = some m.cls := findClass_of_methodNamed B.named
  have hlocks := B.notSynchronized
  have hiX0 : ∀ w ∈ wsX00, w ∈ wsX0_openOnce := by decide +kernel
  have hiX1 : ∀ w ∈ wsX10, w ∈ wsX0_openOnce := by decide +kernel
  have hl := lv_entry ([.ref (ad 1), .int a1]) (n := 7) (Nat.le_of_ble_eq_true rfl)
  rw [lg_entry_eq]
  generalize (lg_sl ([.ref (ad 1), .int a1]) ++ List.replicate (7 - (lg_sl ([.ref (ad 1), .int a1])).length) Slot.unset).toArray = ls at hl ⊢
  have hl : lv_has ls 7 [(0, .ref (ad 1)), (1, .int a1)] := hl
  unfold f_X0_openOnce at hf
  obtain ⟨H, eH⟩ : ∃ H, H = s.heap := ⟨_, rfl⟩
  obtain ⟨locs, eL⟩ : ∃ L : List Loc, L = [] := ⟨_, rfl⟩
  rw [← eH, ← eL] at hw ⊢
  clear eH eL
  have B162 : ∀ (K : RK) (x2 : Int32) (x3 : Int32) (H : Heap) (locs : List Loc) (ls : Array Slot), f_X0_openOnce_b162 K x2 x3 = some (r, K') → WH D cI cR A (xws cI cR ad O K) s H locs → lv_has ls 7 [(0, .ref (ad 1)), (2, .int x2), (3, .int x3)] → W p l e (headSpec wsX0_openOnce ({ frames := 4, cells := 0, slots := 0, locals := 87 })).room s m ([.ref (ad 1), .int a1] : List Value).toArray below meth c H locs 0 0 (MQ below (QV (some (.int r)) D A (xws cI cR ad O K')) (([.ref (ad 1), .int a1] : List Value)).toArray s 0 0 A) (F0 m 162 ls []) := by
    intro K x2 x3 H locs ls hf hw hl
    unfold f_X0_openOnce_b162 at hf
    refine lv_aload_n hx hb dX0_openOnce_162 rfl (lv_at hl 0 rfl) ?_
    refine q_get hx hb hts hiX0 hown hw 1 xa_1 rfl 0 (by decide) (hts (.fieldLink RX0 12 "LaceRanks$Carnival" "guests" "LLaceRanks$Guests;") (by decide +kernel)) rfl dX0_openOnce_163 ?_
    refine q_getN hx hb hts hiX1 hown hw 2 xa_2 rfl 7 (by decide) (nw_X0_146 hw.2.2.2.2) rfl dX0_openOnce_166 ?_
    refine lv_iload_n hx hb dX0_openOnce_169 rfl (lv_at hl 1 rfl) ?_
    refine lv_iconst (v := 1) hx hb dX0_openOnce_170 (by decide) ?_
    obtain ⟨K1, hK1, hf⟩ := nmE hf
    refine q_callSN (rest := []) (st1 := []) [.ref (ad 10), .int x2, .int 1] ⟨hx, hb, hml, hown, hts⟩ (c_X5_put (q0 := 10) xa_10 (xs_10.trans (congrArg (fun z => (xws cI cR ad O z)) hK1.symm))) ⟨va_cnB 3 hts gX0_openOnce_X5_put_n90 rfl rfl rfl (nw_X0_90 hw.2.2.2.2) (hts (.initialized RX5) (by decide +kernel)) (by decide +kernel) ⟨Nat.le_of_ble_eq_true rfl, Nat.le_of_ble_eq_true rfl⟩, (hts (.static yX5_put) (by decide +kernel)), trivial⟩ hw rfl hl.1 rfl (Nat.le_of_ble_eq_true rfl) dX0_openOnce_171 ⟨Nat.zero_le _, Nat.zero_le _⟩ rfl (fun H locs hw => ?_)
    refine lv_iload_n hx hb dX0_openOnce_174 rfl (lv_at hl 2 rfl) ?_
    cases hf
    exact q_iret hx hb hr hlocks hw dX0_openOnce_175
  have B117 : ∀ (K : RK) (x2 : Int32) (x3 : Int32) (x5 : Int32) (x6 : Int32) (H : Heap) (locs : List Loc) (ls : Array Slot), f_X0_openOnce_b117 K x2 x3 x5 x6 = some (r, K') → WH D cI cR A (xws cI cR ad O K) s H locs → lv_has ls 7 [(0, .ref (ad 1)), (2, .int x2), (3, .int x3), (5, .int x5), (6, .int x6)] → W p l e (headSpec wsX0_openOnce ({ frames := 4, cells := 0, slots := 0, locals := 87 })).room s m ([.ref (ad 1), .int a1] : List Value).toArray below meth c H locs 0 0 (MQ below (QV (some (.int r)) D A (xws cI cR ad O K')) (([.ref (ad 1), .int a1] : List Value)).toArray s 0 0 A) (F0 m 117 ls []) := by
    intro K x2 x3 x5 x6 H locs ls hf hw hl
    unfold f_X0_openOnce_b117 at hf
    refine lv_aload_n hx hb dX0_openOnce_117 rfl (lv_at hl 0 rfl) ?_
    refine q_get hx hb hts hiX0 hown hw 1 xa_1 rfl 0 (by decide) (hts (.fieldLink RX0 12 "LaceRanks$Carnival" "guests" "LLaceRanks$Guests;") (by decide +kernel)) rfl dX0_openOnce_118 ?_
    refine q_getN hx hb hts hiX1 hown hw 2 xa_2 rfl 2 (by decide) (nw_X0_64 hw.2.2.2.2) rfl dX0_openOnce_121 ?_
    refine lv_iload_n hx hb dX0_openOnce_124 rfl (lv_at hl 1 rfl) ?_
    refine lv_aload_n hx hb dX0_openOnce_125 rfl (lv_at hl 0 rfl) ?_
    refine q_get hx hb hts hiX0 hown hw 1 xa_1 rfl 0 (by decide) (hts (.fieldLink RX0 12 "LaceRanks$Carnival" "guests" "LLaceRanks$Guests;") (by decide +kernel)) rfl dX0_openOnce_126 ?_
    refine q_getN hx hb hts hiX1 hown hw 2 xa_2 rfl 2 (by decide) (nw_X0_64 hw.2.2.2.2) rfl dX0_openOnce_129 ?_
    refine lv_iload_n hx hb dX0_openOnce_132 rfl (lv_at hl 1 rfl) ?_
    obtain ⟨r1, hr1, hf⟩ := nmE hf
    refine q_callSN (rest := [.int x2, .ref (ad 5)]) (st1 := [.int r1, .int x2, .ref (ad 5)]) [.ref (ad 5), .int x2] ⟨hx, hb, hml, hown, hts⟩ (c_X5_at (q0 := 5) xa_5 hr1) ⟨va_cnB 2 hts gX0_openOnce_X5_at_n67 rfl rfl rfl (nw_X0_67 hw.2.2.2.2) (hts (.initialized RX5) (by decide +kernel)) (by decide +kernel) ⟨Nat.le_of_ble_eq_true rfl, Nat.le_of_ble_eq_true rfl⟩, (hts (.static yX5_at) (by decide +kernel)), trivial⟩ hw rfl hl.1 rfl (Nat.le_of_ble_eq_true rfl) dX0_openOnce_133 ⟨Nat.zero_le _, Nat.zero_le _⟩ rfl (fun H locs hw => ?_)
    refine lv_iload hx hb dX0_openOnce_136 (lv_at hl 3 rfl) ?_
    refine lv_iadd hx hb dX0_openOnce_138 ?_
    refine lv_iload hx hb dX0_openOnce_139 (lv_at hl 4 rfl) ?_
    refine lv_isub hx hb dX0_openOnce_141 ?_
    obtain ⟨K2, hK2, hf⟩ := nmE hf
    refine q_callSN (rest := []) (st1 := []) [.ref (ad 5), .int x2, .int ((r1 + x5) - x6)] ⟨hx, hb, hml, hown, hts⟩ (c_X5_put (q0 := 5) xa_5 (xs_5.trans (congrArg (fun z => (xws cI cR ad O z)) hK2.symm))) ⟨va_cnB 3 hts gX0_openOnce_X5_put_n90 rfl rfl rfl (nw_X0_90 hw.2.2.2.2) (hts (.initialized RX5) (by decide +kernel)) (by decide +kernel) ⟨Nat.le_of_ble_eq_true rfl, Nat.le_of_ble_eq_true rfl⟩, (hts (.static yX5_put) (by decide +kernel)), trivial⟩ hw rfl hl.1 rfl (Nat.le_of_ble_eq_true rfl) dX0_openOnce_142 ⟨Nat.zero_le _, Nat.zero_le _⟩ rfl (fun H locs hw => ?_)
    refine lv_iload_n hx hb dX0_openOnce_145 rfl (lv_at hl 2 rfl) ?_
    refine lv_if_le (tgt := 162) hx hb dX0_openOnce_146 (by decide) (fun hc => ?_) (fun hc => ?_)
    · have hf := iteT hf hc
      exact B162 K2 x2 x3 H locs ls hf hw (lv_sub hl [0, 1, 2] rfl)
    · have hf := iteF hf hc
      refine lv_aload_n hx hb dX0_openOnce_149 rfl (lv_at hl 0 rfl) ?_
      refine lv_aload_n hx hb dX0_openOnce_150 rfl (lv_at hl 0 rfl) ?_
      refine q_get hx hb hts hiX0 hown hw 1 xa_1 rfl 0 (by decide) (hts (.fieldLink RX0 12 "LaceRanks$Carnival" "guests" "LLaceRanks$Guests;") (by decide +kernel)) rfl dX0_openOnce_151 ?_
      refine lv_iload_n hx hb dX0_openOnce_154 rfl (lv_at hl 1 rfl) ?_
      obtain ⟨r3, hr3, hf⟩ := bndS hf
      refine q_callVN (rest := [.ref (ad 1)]) (st1 := [.int r3, .ref (ad 1)]) [.int x2] ⟨hx, hb, hml, hown, hts⟩ (c_X1_wornCoat hr3) ⟨va_cnB 1 hts gX0_openOnce_X1_wornCoat_n53 rfl rfl rfl (nw_X0_53 hw.2.2.2.2) (hts (.initialized RX1) (by decide +kernel)) (by decide +kernel) ⟨Nat.le_of_ble_eq_true rfl, Nat.le_of_ble_eq_true rfl⟩, (hts (.instanceMethod yX1_wornCoat) (by decide +kernel)), (hts (.selects RX1 yX1_wornCoat yX1_wornCoat) (by decide +kernel))⟩ hw xa_2 rfl rfl hl.1 rfl (Nat.le_of_ble_eq_true rfl) dX0_openOnce_155 ⟨Nat.zero_le _, Nat.zero_le _⟩ rfl (fun H locs hw => ?_)
      refine lv_iload_n hx hb dX0_openOnce_158 rfl (lv_at hl 2 rfl) ?_
      obtain ⟨K4, hr4, hf⟩ := bndS hf
      refine q_callV (rest := []) (st1 := []) [.int r3, .int x3] ⟨hx, hb, hml, hown, hts⟩ (c_X0_cutLace hr4) (cwV 2 hts gX0_openOnce_X0_cutLace rfl rfl rfl (by decide +kernel) ⟨Nat.le_of_ble_eq_true rfl, Nat.le_of_ble_eq_true rfl⟩) hw xa_1 rfl rfl hl.1 rfl (Nat.le_of_ble_eq_true rfl) dX0_openOnce_159 ⟨Nat.zero_le _, Nat.zero_le _⟩ rfl (fun H locs hw => ?_)
      exact B162 K4 x2 x3 H locs ls hf hw (lv_sub hl [0, 1, 2] rfl)
  refine lv_aload_n hx hb dX0_openOnce_0 rfl (lv_at hl 0 rfl) ?_
  refine q_get hx hb hts hiX0 hown hw 1 xa_1 rfl 1 (by decide) (hts (.fieldLink RX0 21 "LaceRanks$Carnival" "lines" "LLaceRanks$Lines;") (by decide +kernel)) rfl dX0_openOnce_1 ?_
  refine lv_iload_n hx hb dX0_openOnce_4 rfl (lv_at hl 1 rfl) ?_
  obtain ⟨r1, K2, hr2, hf⟩ := bnd2S hf
  refine q_callVN (rest := []) (st1 := [.int r1]) [.int a1] ⟨hx, hb, hml, hown, hts⟩ (c_X3_takeFirst hr2) ⟨va_cnB 1 hts gX0_openOnce_X3_takeFirst_n136 rfl rfl rfl (nw_X0_136 hw.2.2.2.2) (hts (.initialized RX3) (by decide +kernel)) (by decide +kernel) ⟨Nat.le_of_ble_eq_true rfl, Nat.le_of_ble_eq_true rfl⟩, (hts (.instanceMethod yX3_takeFirst) (by decide +kernel)), (hts (.selects RX3 yX3_takeFirst yX3_takeFirst) (by decide +kernel))⟩ hw xa_11 rfl rfl hl.1 rfl (Nat.le_of_ble_eq_true rfl) dX0_openOnce_5 ⟨Nat.zero_le _, Nat.zero_le _⟩ rfl (fun H locs hw => ?_)
  refine lv_istore_n (lv' := [(2, .int r1), (0, .ref (ad 1)), (1, .int a1)]) hx hb dX0_openOnce_8 rfl hl (by decide) rfl (fun ls hl => ?_)
  refine lv_aload_n hx hb dX0_openOnce_9 rfl (lv_at hl 1 rfl) ?_
  refine q_get hx hb hts hiX0 hown hw 1 xa_1 rfl 0 (by decide) (hts (.fieldLink RX0 12 "LaceRanks$Carnival" "guests" "LLaceRanks$Guests;") (by decide +kernel)) rfl dX0_openOnce_10 ?_
  refine lv_iload_n hx hb dX0_openOnce_13 rfl (lv_at hl 0 rfl) ?_
  obtain ⟨r3, hr3, hf⟩ := bndS hf
  refine q_callVN (rest := []) (st1 := [.int r3]) [.int r1] ⟨hx, hb, hml, hown, hts⟩ (c_X1_has hr3) ⟨va_cnB 1 hts gX0_openOnce_X1_has_n139 rfl rfl rfl (nw_X0_139 hw.2.2.2.2) (hts (.initialized RX1) (by decide +kernel)) (by decide +kernel) ⟨Nat.le_of_ble_eq_true rfl, Nat.le_of_ble_eq_true rfl⟩, (hts (.instanceMethod yX1_has) (by decide +kernel)), (hts (.selects RX1 yX1_has yX1_has) (by decide +kernel))⟩ hw xa_2 rfl rfl hl.1 rfl (Nat.le_of_ble_eq_true rfl) dX0_openOnce_14 ⟨Nat.zero_le _, Nat.zero_le _⟩ rfl (fun H locs hw => ?_)
  refine lv_if_ne (tgt := 22) hx hb dX0_openOnce_17 (by decide) (fun hc => ?_) (fun hc => ?_)
  · have hf := iteF hf hc
    refine lv_aload_n hx hb dX0_openOnce_22 rfl (lv_at hl 1 rfl) ?_
    refine lv_iload_n hx hb dX0_openOnce_23 rfl (lv_at hl 0 rfl) ?_
    refine lv_iload_n hx hb dX0_openOnce_24 rfl (lv_at hl 2 rfl) ?_
    obtain ⟨r4, hr4, hf⟩ := bndS hf
    refine q_callV (rest := []) (st1 := [.int r4]) [.int r1, .int a1] ⟨hx, hb, hml, hown, hts⟩ (c_X0_ellsTooMuch hr4) (cwV 2 hts gX0_openOnce_X0_ellsTooMuch rfl rfl rfl (by decide +kernel) ⟨Nat.le_of_ble_eq_true rfl, Nat.le_of_ble_eq_true rfl⟩) hw xa_1 rfl rfl hl.1 rfl (Nat.le_of_ble_eq_true rfl) dX0_openOnce_25 ⟨Nat.zero_le _, Nat.zero_le _⟩ rfl (fun H locs hw => ?_)
    refine lv_istore_n (lv' := [(3, .int r4), (2, .int r1), (0, .ref (ad 1)), (1, .int a1)]) hx hb dX0_openOnce_28 rfl hl (by decide) rfl (fun ls hl => ?_)
    refine lv_iload_n hx hb dX0_openOnce_29 rfl (lv_at hl 0 rfl) ?_
    refine lv_aload_n hx hb dX0_openOnce_30 rfl (lv_at hl 2 rfl) ?_
    refine q_get hx hb hts hiX0 hown hw 1 xa_1 rfl 2 (by decide) (hts (.fieldLink RX0 25 "LaceRanks$Carnival" "settings" "[I") (by decide +kernel)) rfl dX0_openOnce_31 ?_
    refine lv_iconst (v := 3) hx hb dX0_openOnce_34 (by decide) ?_
    obtain ⟨r5, hr5, hf⟩ := nmE hf
    refine q_callSN (rest := [.int r4]) (st1 := [.int r5, .int r4]) [.ref (ad 14), .int 3] ⟨hx, hb, hml, hown, hts⟩ (c_X5_at (q0 := 14) xa_14 hr5) ⟨va_cnB 2 hts gX0_openOnce_X5_at_n67 rfl rfl rfl (nw_X0_67 hw.2.2.2.2) (hts (.initialized RX5) (by decide +kernel)) (by decide +kernel) ⟨Nat.le_of_ble_eq_true rfl, Nat.le_of_ble_eq_true rfl⟩, (hts (.static yX5_at) (by decide +kernel)), trivial⟩ hw rfl hl.1 rfl (Nat.le_of_ble_eq_true rfl) dX0_openOnce_35 ⟨Nat.zero_le _, Nat.zero_le _⟩ rfl (fun H locs hw => ?_)
    refine lv_imul hx hb dX0_openOnce_38 ?_
    refine lv_istore (lv' := [(4, .int (r4 * r5)), (3, .int r4), (2, .int r1), (0, .ref (ad 1)), (1, .int a1)]) hx hb dX0_openOnce_39 hl (by decide) rfl (fun ls hl => ?_)
    refine lv_aload_n hx hb dX0_openOnce_41 rfl (lv_at hl 3 rfl) ?_
    refine lv_iload_n hx hb dX0_openOnce_42 rfl (lv_at hl 2 rfl) ?_
    refine lv_iload hx hb dX0_openOnce_43 (lv_at hl 0 rfl) ?_
    obtain ⟨r6, hr6, hf⟩ := bndS hf
    refine q_callV (rest := []) (st1 := [.int r6]) [.int r1, .int (r4 * r5)] ⟨hx, hb, hml, hown, hts⟩ (c_X0_leftOfFine hr6) (cwV 2 hts gX0_openOnce_X0_leftOfFine rfl rfl rfl (by decide +kernel) ⟨Nat.le_of_ble_eq_true rfl, Nat.le_of_ble_eq_true rfl⟩) hw xa_1 rfl rfl hl.1 rfl (Nat.le_of_ble_eq_true rfl) dX0_openOnce_45 ⟨Nat.zero_le _, Nat.zero_le _⟩ rfl (fun H locs hw => ?_)
    refine lv_istore (lv' := [(5, .int r6), (4, .int (r4 * r5)), (3, .int r4), (2, .int r1), (0, .ref (ad 1)), (1, .int a1)]) hx hb dX0_openOnce_48 hl (by decide) rfl (fun ls hl => ?_)
    refine lv_aload_n hx hb dX0_openOnce_50 rfl (lv_at hl 4 rfl) ?_
    refine lv_iload_n hx hb dX0_openOnce_51 rfl (lv_at hl 3 rfl) ?_
    refine lv_iload hx hb dX0_openOnce_52 (lv_at hl 0 rfl) ?_
    obtain ⟨r7, hr7, hf⟩ := bndS hf
    refine q_callV (rest := []) (st1 := [.int r7]) [.int r1, .int r6] ⟨hx, hb, hml, hown, hts⟩ (c_X0_paidByLender hr7) (cwV 2 hts gX0_openOnce_X0_paidByLender rfl rfl rfl (by decide +kernel) ⟨Nat.le_of_ble_eq_true rfl, Nat.le_of_ble_eq_true rfl⟩) hw xa_1 rfl rfl hl.1 rfl (Nat.le_of_ble_eq_true rfl) dX0_openOnce_54 ⟨Nat.zero_le _, Nat.zero_le _⟩ rfl (fun H locs hw => ?_)
    refine lv_istore (lv' := [(6, .int r7), (5, .int r6), (4, .int (r4 * r5)), (3, .int r4), (2, .int r1), (0, .ref (ad 1)), (1, .int a1)]) hx hb dX0_openOnce_57 hl (by decide) rfl (fun ls hl => ?_)
    refine lv_aload_n hx hb dX0_openOnce_59 rfl (lv_at hl 5 rfl) ?_
    refine lv_dup hx hb dX0_openOnce_60 rfl ?_
    refine q_get hx hb hts hiX0 hown hw 1 xa_1 rfl 4 (by decide) (hts (.fieldLink RX0 97 "LaceRanks$Carnival" "chest" "I") (by decide +kernel)) rfl dX0_openOnce_61 ?_
    refine lv_aload_n hx hb dX0_openOnce_64 rfl (lv_at hl 5 rfl) ?_
    refine q_get hx hb hts hiX0 hown hw 1 xa_1 rfl 0 (by decide) (hts (.fieldLink RX0 12 "LaceRanks$Carnival" "guests" "LLaceRanks$Guests;") (by decide +kernel)) rfl dX0_openOnce_65 ?_
    refine lv_iload_n hx hb dX0_openOnce_68 rfl (lv_at hl 4 rfl) ?_
    refine lv_aload_n hx hb dX0_openOnce_69 rfl (lv_at hl 5 rfl) ?_
    refine lv_iload_n hx hb dX0_openOnce_70 rfl (lv_at hl 4 rfl) ?_
    refine lv_iload hx hb dX0_openOnce_71 (lv_at hl 2 rfl) ?_
    obtain ⟨r8, hr8, hf⟩ := bndS hf
    refine q_callV (rest := [.int r1, .ref (ad 2), .int (K2 11 1), .ref (ad 1)]) (st1 := [.int r8, .int r1, .ref (ad 2), .int (K2 11 1), .ref (ad 1)]) [.int r1, .int (r4 * r5)] ⟨hx, hb, hml, hown, hts⟩ (c_X0_paidByGuest hr8) (cwV 2 hts gX0_openOnce_X0_paidByGuest rfl rfl rfl (by decide +kernel) ⟨Nat.le_of_ble_eq_true rfl, Nat.le_of_ble_eq_true rfl⟩) hw xa_1 rfl rfl hl.1 rfl (Nat.le_of_ble_eq_true rfl) dX0_openOnce_73 ⟨Nat.zero_le _, Nat.zero_le _⟩ rfl (fun H locs hw => ?_)
    obtain ⟨r9, K10, hr10, hf⟩ := bnd2S hf
    refine q_callVN (rest := [.int (K2 11 1), .ref (ad 1)]) (st1 := [.int r9, .int (K2 11 1), .ref (ad 1)]) [.int r1, .int r8] ⟨hx, hb, hml, hown, hts⟩ (c_X1_payFromPurse hr10) ⟨va_cnB 2 hts gX0_openOnce_X1_payFromPurse_n100 rfl rfl rfl (nw_X0_100 hw.2.2.2.2) (hts (.initialized RX1) (by decide +kernel)) (by decide +kernel) ⟨Nat.le_of_ble_eq_true rfl, Nat.le_of_ble_eq_true rfl⟩, (hts (.instanceMethod yX1_payFromPurse) (by decide +kernel)), (hts (.selects RX1 yX1_payFromPurse yX1_payFromPurse) (by decide +kernel))⟩ hw xa_2 rfl rfl hl.1 rfl (Nat.le_of_ble_eq_true rfl) dX0_openOnce_76 ⟨Nat.zero_le _, Nat.zero_le _⟩ rfl (fun H locs hw => ?_)
    refine lv_iadd hx hb dX0_openOnce_79 ?_
    obtain ⟨K11, hK11, hf⟩ := nmE hf
    refine q_put (ty := .int) hx hb hts hiX0 tyX0 tyX0_ok nmX0 hown hw 1 xa_1 rfl 4 (by decide) (hts (.fieldLink RX0 97 "LaceRanks$Carnival" "chest" "I") (by decide +kernel)) rfl (by decide +kernel) rfl rfl (Nat.le_of_ble_eq_true rfl) dX0_openOnce_80 (xs_1_4.trans (congrArg (fun z => (xws cI cR ad O z)) hK11.symm)) (fun H locs hw => ?_)
    refine lv_iload hx hb dX0_openOnce_83 (lv_at hl 0 rfl) ?_
    refine lv_if_le (tgt := 117) hx hb dX0_openOnce_85 (by decide) (fun hc => ?_) (fun hc => ?_)
    · have hf := iteT hf hc
      exact B117 K11 r1 r4 r6 r7 H locs ls hf hw (lv_sub hl [5, 4, 3, 1, 0] rfl)
    · have hf := iteF hf hc
      refine lv_aload_n hx hb dX0_openOnce_88 rfl (lv_at hl 5 rfl) ?_
      refine lv_dup hx hb dX0_openOnce_89 rfl ?_
      refine q_get hx hb hts hiX0 hown hw 1 xa_1 rfl 4 (by decide) (hts (.fieldLink RX0 97 "LaceRanks$Carnival" "chest" "I") (by decide +kernel)) rfl dX0_openOnce_90 ?_
      refine lv_aload_n hx hb dX0_openOnce_93 rfl (lv_at hl 5 rfl) ?_
      refine q_get hx hb hts hiX0 hown hw 1 xa_1 rfl 0 (by decide) (hts (.fieldLink RX0 12 "LaceRanks$Carnival" "guests" "LLaceRanks$Guests;") (by decide +kernel)) rfl dX0_openOnce_94 ?_
      refine lv_aload_n hx hb dX0_openOnce_97 rfl (lv_at hl 5 rfl) ?_
      refine q_get hx hb hts hiX0 hown hw 1 xa_1 rfl 0 (by decide) (hts (.fieldLink RX0 12 "LaceRanks$Carnival" "guests" "LLaceRanks$Guests;") (by decide +kernel)) rfl dX0_openOnce_98 ?_
      refine q_getN hx hb hts hiX1 hown hw 2 xa_2 rfl 4 (by decide) (nw_X0_121 hw.2.2.2.2) rfl dX0_openOnce_101 ?_
      refine lv_iload_n hx hb dX0_openOnce_104 rfl (lv_at hl 4 rfl) ?_
      obtain ⟨r12, hr12, hf⟩ := nmE hf
      refine q_callSN (rest := [.ref (ad 2), .int (K11 11 1), .ref (ad 1)]) (st1 := [.int r12, .ref (ad 2), .int (K11 11 1), .ref (ad 1)]) [.ref (ad 7), .int r1] ⟨hx, hb, hml, hown, hts⟩ (c_X5_at (q0 := 7) xa_7 hr12) ⟨va_cnB 2 hts gX0_openOnce_X5_at_n67 rfl rfl rfl (nw_X0_67 hw.2.2.2.2) (hts (.initialized RX5) (by decide +kernel)) (by decide +kernel) ⟨Nat.le_of_ble_eq_true rfl, Nat.le_of_ble_eq_true rfl⟩, (hts (.static yX5_at) (by decide +kernel)), trivial⟩ hw rfl hl.1 rfl (Nat.le_of_ble_eq_true rfl) dX0_openOnce_105 ⟨Nat.zero_le _, Nat.zero_le _⟩ rfl (fun H locs hw => ?_)
      refine lv_iload hx hb dX0_openOnce_108 (lv_at hl 0 rfl) ?_
      obtain ⟨r13, K14, hr14, hf⟩ := bnd2S hf
      refine q_callVN (rest := [.int (K11 11 1), .ref (ad 1)]) (st1 := [.int r13, .int (K11 11 1), .ref (ad 1)]) [.int r12, .int r7] ⟨hx, hb, hml, hown, hts⟩ (c_X1_payFromPurse hr14) ⟨va_cnB 2 hts gX0_openOnce_X1_payFromPurse_n100 rfl rfl rfl (nw_X0_100 hw.2.2.2.2) (hts (.initialized RX1) (by decide +kernel)) (by decide +kernel) ⟨Nat.le_of_ble_eq_true rfl, Nat.le_of_ble_eq_true rfl⟩, (hts (.instanceMethod yX1_payFromPurse) (by decide +kernel)), (hts (.selects RX1 yX1_payFromPurse yX1_payFromPurse) (by decide +kernel))⟩ hw xa_2 rfl rfl hl.1 rfl (Nat.le_of_ble_eq_true rfl) dX0_openOnce_110 ⟨Nat.zero_le _, Nat.zero_le _⟩ rfl (fun H locs hw => ?_)
      refine lv_iadd hx hb dX0_openOnce_113 ?_
      obtain ⟨K15, hK15, hf⟩ := nmE hf
      refine q_put (ty := .int) hx hb hts hiX0 tyX0 tyX0_ok nmX0 hown hw 1 xa_1 rfl 4 (by decide) (hts (.fieldLink RX0 97 "LaceRanks$Carnival" "chest" "I") (by decide +kernel)) rfl (by decide +kernel) rfl rfl (Nat.le_of_ble_eq_true rfl) dX0_openOnce_114 (xs_1_4.trans (congrArg (fun z => (xws cI cR ad O z)) hK15.symm)) (fun H locs hw => ?_)
      exact B117 K15 r1 r4 r6 r7 H locs ls hf hw (lv_sub hl [5, 4, 3, 1, 0] rfl)
  · have hf := iteT hf hc
    refine lv_iconst (v := 0) hx hb dX0_openOnce_20 (by decide) ?_
    cases hf
    exact q_iret hx hb hr hlocks hw dX0_openOnce_21

def f_X0_endNight (K : RK)   : Option (Int32 × RK) := bnd (f_X5_sumOf 10 (K 7) (K 12 0)) (fun r1 => bnd (f_X1_passNight K) (fun K2 => bnd (f_X3_sendAllAway K2) (fun K3 => nm (upS K3 11 0 ((K3 11 0) + 1)) (fun K4 => some (r1, K4)))))
set_option maxHeartbeats 4000000 in
set_option maxRecDepth 100000 in
theorem c_X0_endNight {l : Launch} {D : va_G} {cI cR : ClassId} {ad : Nat → Nat} {A : Nat → Prop} {O : XO} {K : RK} {K' : RK}  {r : Int32}  (hf : f_X0_endNight K = some (r, K')) : MC l yX0_endNight wsX0_endNight 2 44 D cI cR A [.ref (ad 1)] (xws cI cR ad O K) (some (.int r)) (xws cI cR ad O K') := by
  refine Met.ofW (cc := cX0_endNight) (maxL := 2) (ret := (some .int)) (by decide) rfl ?_
  intro p e s m args below meth c s₁ B hml hv
  obtain ⟨rfl, hw⟩ := q_start hv
  have hx := B.exec
  have hb := B.bytes
  have hr := B.returns
  have hts := atoms_spec (ws := wsX0_endNight) B.pre
  have hown : s.vm.findClass RX0 = some m.cls := findClass_of_methodNamed B.named
  have hlocks := B.notSynchronized
  have hiX0 : ∀ w ∈ wsX00, w ∈ wsX0_endNight := by decide +kernel
  have hiX1 : ∀ w ∈ wsX10, w ∈ wsX0_endNight := by decide +kernel
  have hl := lv_entry ([.ref (ad 1)]) (n := 2) (Nat.le_of_ble_eq_true rfl)
  rw [lg_entry_eq]
  generalize (lg_sl ([.ref (ad 1)]) ++ List.replicate (2 - (lg_sl ([.ref (ad 1)])).length) Slot.unset).toArray = ls at hl ⊢
  have hl : lv_has ls 2 [(0, .ref (ad 1))] := hl
  unfold f_X0_endNight at hf
  obtain ⟨H, eH⟩ : ∃ H, H = s.heap := ⟨_, rfl⟩
  obtain ⟨locs, eL⟩ : ∃ L : List Loc, L = [] := ⟨_, rfl⟩
  rw [← eH, ← eL] at hw ⊢
  clear eH eL
  refine lv_aload_n hx hb dX0_endNight_0 rfl (lv_at hl 0 rfl) ?_
  refine q_get hx hb hts hiX0 hown hw 1 xa_1 rfl 0 (by decide) (hts (.fieldLink RX0 12 "LaceRanks$Carnival" "guests" "LLaceRanks$Guests;") (by decide +kernel)) rfl dX0_endNight_1 ?_
  refine q_getN hx hb hts hiX1 hown hw 2 xa_2 rfl 7 (by decide) (nw_X0_146 hw.2.2.2.2) rfl dX0_endNight_4 ?_
  refine lv_aload_n hx hb dX0_endNight_7 rfl (lv_at hl 0 rfl) ?_
  refine q_get hx hb hts hiX0 hown hw 1 xa_1 rfl 0 (by decide) (hts (.fieldLink RX0 12 "LaceRanks$Carnival" "guests" "LLaceRanks$Guests;") (by decide +kernel)) rfl dX0_endNight_8 ?_
  refine q_getN hx hb hts hiX1 hown hw 2 xa_2 rfl 8 (by decide) (nw_X0_158 hw.2.2.2.2) rfl dX0_endNight_11 ?_
  obtain ⟨r1, hr1, hf⟩ := bndS hf
  refine q_callSN (rest := []) (st1 := [.int r1]) [.ref (ad 10), .int (K 12 0)] ⟨hx, hb, hml, hown, hts⟩ (c_X5_sumOf (q0 := 10) xa_10 (by decide) hr1) ⟨va_cnB 2 hts gX0_endNight_X5_sumOf_n161 rfl rfl rfl (nw_X0_161 hw.2.2.2.2) (hts (.initialized RX5) (by decide +kernel)) (by decide +kernel) ⟨Nat.le_of_ble_eq_true rfl, Nat.le_of_ble_eq_true rfl⟩, (hts (.static yX5_sumOf) (by decide +kernel)), trivial⟩ hw rfl hl.1 rfl (Nat.le_of_ble_eq_true rfl) dX0_endNight_14 ⟨Nat.zero_le _, Nat.zero_le _⟩ rfl (fun H locs hw => ?_)
  refine lv_istore_n (lv' := [(1, .int r1), (0, .ref (ad 1))]) hx hb dX0_endNight_17 rfl hl (by decide) rfl (fun ls hl => ?_)
  refine lv_aload_n hx hb dX0_endNight_18 rfl (lv_at hl 1 rfl) ?_
  refine q_get hx hb hts hiX0 hown hw 1 xa_1 rfl 0 (by decide) (hts (.fieldLink RX0 12 "LaceRanks$Carnival" "guests" "LLaceRanks$Guests;") (by decide +kernel)) rfl dX0_endNight_19 ?_
  obtain ⟨K2, hr2, hf⟩ := bndS hf
  refine q_callVN (rest := []) (st1 := []) [] ⟨hx, hb, hml, hown, hts⟩ (c_X1_passNight hr2) ⟨va_cnB 0 hts gX0_endNight_X1_passNight_n164 rfl rfl rfl (nw_X0_164 hw.2.2.2.2) (hts (.initialized RX1) (by decide +kernel)) (by decide +kernel) ⟨Nat.le_of_ble_eq_true rfl, Nat.le_of_ble_eq_true rfl⟩, (hts (.instanceMethod yX1_passNight) (by decide +kernel)), (hts (.selects RX1 yX1_passNight yX1_passNight) (by decide +kernel))⟩ hw xa_2 rfl rfl hl.1 rfl (Nat.le_of_ble_eq_true rfl) dX0_endNight_22 ⟨Nat.zero_le _, Nat.zero_le _⟩ rfl (fun H locs hw => ?_)
  refine lv_aload_n hx hb dX0_endNight_25 rfl (lv_at hl 1 rfl) ?_
  refine q_get hx hb hts hiX0 hown hw 1 xa_1 rfl 1 (by decide) (hts (.fieldLink RX0 21 "LaceRanks$Carnival" "lines" "LLaceRanks$Lines;") (by decide +kernel)) rfl dX0_endNight_26 ?_
  obtain ⟨K3, hr3, hf⟩ := bndS hf
  refine q_callVN (rest := []) (st1 := []) [] ⟨hx, hb, hml, hown, hts⟩ (c_X3_sendAllAway hr3) ⟨va_cnB 0 hts gX0_endNight_X3_sendAllAway_n167 rfl rfl rfl (nw_X0_167 hw.2.2.2.2) (hts (.initialized RX3) (by decide +kernel)) (by decide +kernel) ⟨Nat.le_of_ble_eq_true rfl, Nat.le_of_ble_eq_true rfl⟩, (hts (.instanceMethod yX3_sendAllAway) (by decide +kernel)), (hts (.selects RX3 yX3_sendAllAway yX3_sendAllAway) (by decide +kernel))⟩ hw xa_11 rfl rfl hl.1 rfl (Nat.le_of_ble_eq_true rfl) dX0_endNight_29 ⟨Nat.zero_le _, Nat.zero_le _⟩ rfl (fun H locs hw => ?_)
  refine lv_aload_n hx hb dX0_endNight_32 rfl (lv_at hl 1 rfl) ?_
  refine lv_dup hx hb dX0_endNight_33 rfl ?_
  refine q_get hx hb hts hiX0 hown hw 1 xa_1 rfl 3 (by decide) (hts (.fieldLink RX0 115 "LaceRanks$Carnival" "nightNumber" "I") (by decide +kernel)) rfl dX0_endNight_34 ?_
  refine lv_iconst (v := 1) hx hb dX0_endNight_37 (by decide) ?_
  refine lv_iadd hx hb dX0_endNight_38 ?_
  obtain ⟨K4, hK4, hf⟩ := nmE hf
  refine q_put (ty := .int) hx hb hts hiX0 tyX0 tyX0_ok nmX0 hown hw 1 xa_1 rfl 3 (by decide) (hts (.fieldLink RX0 115 "LaceRanks$Carnival" "nightNumber" "I") (by decide +kernel)) rfl (by decide +kernel) rfl rfl (Nat.le_of_ble_eq_true rfl) dX0_endNight_39 (xs_1_3.trans (congrArg (fun z => (xws cI cR ad O z)) hK4.symm)) (fun H locs hw => ?_)
  refine lv_iload_n hx hb dX0_endNight_42 rfl (lv_at hl 0 rfl) ?_
  cases hf
  exact q_iret hx hb hr hlocks hw dX0_endNight_43

def f_X0_gateOfFewestElls_b73 (k4 : Int32 → Int32 → Int32 → Option Int32) (K : RK)  (x1 : Int32) (x2 : Int32) (x3 : Int32) : Option Int32 := nm (x3 + 1) (fun v1 => k4 x1 x2 v1)
def f_X0_gateOfFewestElls_b71 (k4 : Int32 → Int32 → Int32 → Option Int32) (K : RK)  (x1 : Int32) (x3 : Int32) : Option Int32 := f_X0_gateOfFewestElls_b73 k4 K x1 x3 x3
def f_X0_gateOfFewestElls_b54 (k4 : Int32 → Int32 → Int32 → Option Int32) (K : RK)  (x1 : Int32) (x2 : Int32) (x3 : Int32) (x4 : Int32) (y0 : Int32) : Option Int32 := (if x4 < 0 then f_X0_gateOfFewestElls_b71 k4 K x1 x3 else (if x4 = 0 then (if y0 = 0 then f_X0_gateOfFewestElls_b73 k4 K x1 x2 x3 else f_X0_gateOfFewestElls_b71 k4 K x1 x3) else f_X0_gateOfFewestElls_b73 k4 K x1 x2 x3))
def f_X0_gateOfFewestElls_l4  (K : RK)  : Nat → Int32 → Int32 → Int32 → Option Int32
  | 0, _, _, _ => none
  | n4 + 1, x1, x2, x3 => (if 3 ≤ x3 then some x2 else bnd (f_X0_ellsTooMuch K x1 x3) (fun r1 => bnd (f_X0_ellsTooMuch K x1 x2) (fun r2 => nm (at_ 3 (K 9) x3) (fun r3 => nm (at_ 3 (K 9) x2) (fun r4 => (if r4 ≤ r3 then f_X0_gateOfFewestElls_b54 (f_X0_gateOfFewestElls_l4 K n4) K x1 x2 x3 (r1 - r2) 0 else f_X0_gateOfFewestElls_b54 (f_X0_gateOfFewestElls_l4 K n4) K x1 x2 x3 (r1 - r2) 1))))))
def f_X0_gateOfFewestElls (K : RK)  (a1 : Int32) : Option Int32 := f_X0_gateOfFewestElls_l4 K fuelN a1 0 1
set_option maxHeartbeats 4000000 in
set_option maxRecDepth 100000 in
theorem c_X0_gateOfFewestElls {l : Launch} {D : va_G} {cI cR : ClassId} {ad : Nat → Nat} {A : Nat → Prop} {O : XO} {K : RK}  {a1 : Int32} {r : Int32}  (hf : f_X0_gateOfFewestElls K a1 = some r) : MC l yX0_gateOfFewestElls wsX0_gateOfFewestElls 4 87 D cI cR A [.ref (ad 1), .int a1] (xws cI cR ad O K) (some (.int r)) (xws cI cR ad O K) := by
  refine Met.ofW (cc := cX0_gateOfFewestElls) (maxL := 6) (ret := (some .int)) (by decide) rfl ?_
  intro p e s m args below meth c s₁ B hml hv
  obtain ⟨rfl, hw⟩ := q_start hv
  have hx := B.exec
  have hb := B.bytes
  have hr := B.returns
  have hts := atoms_spec (ws := wsX0_gateOfFewestElls) B.pre
  have hown : s.vm.findClass RX0 = some m.cls := findClass_of_methodNamed B.named
  have hlocks := B.notSynchronized
  have hiX0 : ∀ w ∈ wsX00, w ∈ wsX0_gateOfFewestElls := by decide +kernel
  have hiX3 : ∀ w ∈ wsX30, w ∈ wsX0_gateOfFewestElls := by decide +kernel
  have hl := lv_entry ([.ref (ad 1), .int a1]) (n := 6) (Nat.le_of_ble_eq_true rfl)
  rw [lg_entry_eq]
  generalize (lg_sl ([.ref (ad 1), .int a1]) ++ List.replicate (6 - (lg_sl ([.ref (ad 1), .int a1])).length) Slot.unset).toArray = ls at hl ⊢
  have hl : lv_has ls 6 [(0, .ref (ad 1)), (1, .int a1)] := hl
  unfold f_X0_gateOfFewestElls at hf
  obtain ⟨H, eH⟩ : ∃ H, H = s.heap := ⟨_, rfl⟩
  obtain ⟨locs, eL⟩ : ∃ L : List Loc, L = [] := ⟨_, rfl⟩
  rw [← eH, ← eL] at hw ⊢
  clear eH eL
  have L4 : ∀ (n4 : Nat) (x1 : Int32) (x2 : Int32) (x3 : Int32) (H : Heap) (locs : List Loc) (ls : Array Slot), f_X0_gateOfFewestElls_l4 K n4 x1 x2 x3 = some r → WH D cI cR A (xws cI cR ad O K) s H locs → lv_has ls 6 [(0, .ref (ad 1)), (1, .int x1), (2, .int x2), (3, .int x3)] → W p l e (headSpec wsX0_gateOfFewestElls ({ frames := 4, cells := 0, slots := 0, locals := 87 })).room s m ([.ref (ad 1), .int a1] : List Value).toArray below meth c H locs 0 0 (MQ below (QV (some (.int r)) D A (xws cI cR ad O K)) (([.ref (ad 1), .int a1] : List Value)).toArray s 0 0 A) (F0 m 4 ls []) := by
    intro n4
    induction n4 with
    | zero => intro x1 x2 x3 H locs ls hf; cases hf
    | succ n4 ih =>
      have ih4 := ih
      have B73 : ∀ (x1 : Int32) (x2 : Int32) (x3 : Int32) (H : Heap) (locs : List Loc) (ls : Array Slot), f_X0_gateOfFewestElls_b73 (f_X0_gateOfFewestElls_l4 K n4) K x1 x2 x3 = some r → WH D cI cR A (xws cI cR ad O K) s H locs → lv_has ls 6 [(0, .ref (ad 1)), (1, .int x1), (2, .int x2), (3, .int x3)] → W p l e (headSpec wsX0_gateOfFewestElls ({ frames := 4, cells := 0, slots := 0, locals := 87 })).room s m ([.ref (ad 1), .int a1] : List Value).toArray below meth c H locs 0 0 (MQ below (QV (some (.int r)) D A (xws cI cR ad O K)) (([.ref (ad 1), .int a1] : List Value)).toArray s 0 0 A) (F0 m 73 ls []) := by
        intro x1 x2 x3 H locs ls hf hw hl
        unfold f_X0_gateOfFewestElls_b73 at hf
        obtain ⟨v1, hv1, hf⟩ := nmE hf
        refine lv_iinc (v := v1) (lv' := [(3, .int v1), (0, .ref (ad 1)), (1, .int x1), (2, .int x2)]) hx hb dX0_gateOfFewestElls_73 hl (k := 3) rfl (by rw [hv1]; rfl) (by decide) rfl (fun ls hl => ?_)
        refine lv_goto (tgt := 4) hx hb dX0_gateOfFewestElls_76 (by decide) ?_
        exact ih4 x1 x2 v1 H locs ls hf hw (lv_sub hl [1, 2, 3, 0] rfl)
      have B71 : ∀ (x1 : Int32) (x3 : Int32) (H : Heap) (locs : List Loc) (ls : Array Slot), f_X0_gateOfFewestElls_b71 (f_X0_gateOfFewestElls_l4 K n4) K x1 x3 = some r → WH D cI cR A (xws cI cR ad O K) s H locs → lv_has ls 6 [(0, .ref (ad 1)), (1, .int x1), (3, .int x3)] → W p l e (headSpec wsX0_gateOfFewestElls ({ frames := 4, cells := 0, slots := 0, locals := 87 })).room s m ([.ref (ad 1), .int a1] : List Value).toArray below meth c H locs 0 0 (MQ below (QV (some (.int r)) D A (xws cI cR ad O K)) (([.ref (ad 1), .int a1] : List Value)).toArray s 0 0 A) (F0 m 71 ls []) := by
        intro x1 x3 H locs ls hf hw hl
        unfold f_X0_gateOfFewestElls_b71 at hf
        refine lv_iload_n hx hb dX0_gateOfFewestElls_71 rfl (lv_at hl 2 rfl) ?_
        refine lv_istore_n (lv' := [(2, .int x3), (0, .ref (ad 1)), (1, .int x1), (3, .int x3)]) hx hb dX0_gateOfFewestElls_72 rfl hl (by decide) rfl (fun ls hl => ?_)
        exact B73 x1 x3 x3 H locs ls hf hw (lv_sub hl [1, 2, 0, 3] rfl)
      have B54 : ∀ (x1 : Int32) (x2 : Int32) (x3 : Int32) (x4 : Int32) (y0 : Int32) (H : Heap) (locs : List Loc) (ls : Array Slot), f_X0_gateOfFewestElls_b54 (f_X0_gateOfFewestElls_l4 K n4) K x1 x2 x3 x4 y0 = some r → WH D cI cR A (xws cI cR ad O K) s H locs → lv_has ls 6 [(0, .ref (ad 1)), (1, .int x1), (2, .int x2), (3, .int x3), (4, .int x4)] → W p l e (headSpec wsX0_gateOfFewestElls ({ frames := 4, cells := 0, slots := 0, locals := 87 })).room s m ([.ref (ad 1), .int a1] : List Value).toArray below meth c H locs 0 0 (MQ below (QV (some (.int r)) D A (xws cI cR ad O K)) (([.ref (ad 1), .int a1] : List Value)).toArray s 0 0 A) (F0 m 54 ls [.int y0]) := by
        intro x1 x2 x3 x4 y0 H locs ls hf hw hl
        unfold f_X0_gateOfFewestElls_b54 at hf
        refine lv_istore (lv' := [(5, .int y0), (0, .ref (ad 1)), (1, .int x1), (2, .int x2), (3, .int x3), (4, .int x4)]) hx hb dX0_gateOfFewestElls_54 hl (by decide) rfl (fun ls hl => ?_)
        refine lv_iload hx hb dX0_gateOfFewestElls_56 (lv_at hl 5 rfl) ?_
        refine lv_if_lt (tgt := 71) hx hb dX0_gateOfFewestElls_58 (by decide) (fun hc => ?_) (fun hc => ?_)
        · have hf := iteT hf hc
          exact B71 x1 x3 H locs ls hf hw (lv_sub hl [1, 2, 4] rfl)
        · have hf := iteF hf hc
          refine lv_iload hx hb dX0_gateOfFewestElls_61 (lv_at hl 5 rfl) ?_
          refine lv_if_ne (tgt := 73) hx hb dX0_gateOfFewestElls_63 (by decide) (fun hc => ?_) (fun hc => ?_)
          · have hf := iteF hf hc
            exact B73 x1 x2 x3 H locs ls hf hw (lv_sub hl [1, 2, 3, 4] rfl)
          · have hf := iteT hf hc
            refine lv_iload hx hb dX0_gateOfFewestElls_66 (lv_at hl 0 rfl) ?_
            refine lv_if_eq (tgt := 73) hx hb dX0_gateOfFewestElls_68 (by decide) (fun hc => ?_) (fun hc => ?_)
            · have hf := iteT hf hc
              exact B73 x1 x2 x3 H locs ls hf hw (lv_sub hl [1, 2, 3, 4] rfl)
            · have hf := iteF hf hc
              exact B71 x1 x3 H locs ls hf hw (lv_sub hl [1, 2, 4] rfl)
      intro x1 x2 x3 H locs ls hf hw hl
      simp only [f_X0_gateOfFewestElls_l4] at hf
      refine lv_iload_n hx hb dX0_gateOfFewestElls_4 rfl (lv_at hl 3 rfl) ?_
      refine lv_iconst (v := 3) hx hb dX0_gateOfFewestElls_5 (by decide) ?_
      refine lv_icmp_ge (tgt := 79) hx hb dX0_gateOfFewestElls_6 (by decide) (fun hc => ?_) (fun hc => ?_)
      · have hf := iteT hf hc
        refine lv_iload_n hx hb dX0_gateOfFewestElls_79 rfl (lv_at hl 2 rfl) ?_
        cases hf
        exact q_iret hx hb hr hlocks hw dX0_gateOfFewestElls_80
      · have hf := iteF hf hc
        refine lv_aload_n hx hb dX0_gateOfFewestElls_9 rfl (lv_at hl 0 rfl) ?_
        refine lv_iload_n hx hb dX0_gateOfFewestElls_10 rfl (lv_at hl 1 rfl) ?_
        refine lv_iload_n hx hb dX0_gateOfFewestElls_11 rfl (lv_at hl 3 rfl) ?_
        obtain ⟨r1, hr1, hf⟩ := bndS hf
        refine q_callV (rest := []) (st1 := [.int r1]) [.int x1, .int x3] ⟨hx, hb, hml, hown, hts⟩ (c_X0_ellsTooMuch hr1) (cwV 2 hts gX0_gateOfFewestElls_X0_ellsTooMuch rfl rfl rfl (by decide +kernel) ⟨Nat.le_of_ble_eq_true rfl, Nat.le_of_ble_eq_true rfl⟩) hw xa_1 rfl rfl hl.1 rfl (Nat.le_of_ble_eq_true rfl) dX0_gateOfFewestElls_12 ⟨Nat.zero_le _, Nat.zero_le _⟩ rfl (fun H locs hw => ?_)
        refine lv_aload_n hx hb dX0_gateOfFewestElls_15 rfl (lv_at hl 0 rfl) ?_
        refine lv_iload_n hx hb dX0_gateOfFewestElls_16 rfl (lv_at hl 1 rfl) ?_
        refine lv_iload_n hx hb dX0_gateOfFewestElls_17 rfl (lv_at hl 2 rfl) ?_
        obtain ⟨r2, hr2, hf⟩ := bndS hf
        refine q_callV (rest := [.int r1]) (st1 := [.int r2, .int r1]) [.int x1, .int x2] ⟨hx, hb, hml, hown, hts⟩ (c_X0_ellsTooMuch hr2) (cwV 2 hts gX0_gateOfFewestElls_X0_ellsTooMuch rfl rfl rfl (by decide +kernel) ⟨Nat.le_of_ble_eq_true rfl, Nat.le_of_ble_eq_true rfl⟩) hw xa_1 rfl rfl hl.1 rfl (Nat.le_of_ble_eq_true rfl) dX0_gateOfFewestElls_18 ⟨Nat.zero_le _, Nat.zero_le _⟩ rfl (fun H locs hw => ?_)
        refine lv_isub hx hb dX0_gateOfFewestElls_21 ?_
        refine lv_istore (lv' := [(4, .int (r1 - r2)), (0, .ref (ad 1)), (1, .int x1), (2, .int x2), (3, .int x3)]) hx hb dX0_gateOfFewestElls_22 hl (by decide) rfl (fun ls hl => ?_)
        refine lv_aload_n hx hb dX0_gateOfFewestElls_24 rfl (lv_at hl 1 rfl) ?_
        refine q_get hx hb hts hiX0 hown hw 1 xa_1 rfl 1 (by decide) (hts (.fieldLink RX0 21 "LaceRanks$Carnival" "lines" "LLaceRanks$Lines;") (by decide +kernel)) rfl dX0_gateOfFewestElls_25 ?_
        refine q_getN hx hb hts hiX3 hown hw 11 xa_11 rfl 1 (by decide) (nw_X0_191 hw.2.2.2.2) rfl dX0_gateOfFewestElls_28 ?_
        refine lv_iload_n hx hb dX0_gateOfFewestElls_31 rfl (lv_at hl 4 rfl) ?_
        obtain ⟨r3, hr3, hf⟩ := nmE hf
        refine q_callSN (rest := []) (st1 := [.int r3]) [.ref (ad 13), .int x3] ⟨hx, hb, hml, hown, hts⟩ (c_X5_at (q0 := 13) xa_13 hr3) ⟨va_cnB 2 hts gX0_gateOfFewestElls_X5_at_n67 rfl rfl rfl (nw_X0_67 hw.2.2.2.2) (hts (.initialized RX5) (by decide +kernel)) (by decide +kernel) ⟨Nat.le_of_ble_eq_true rfl, Nat.le_of_ble_eq_true rfl⟩, (hts (.static yX5_at) (by decide +kernel)), trivial⟩ hw rfl hl.1 rfl (Nat.le_of_ble_eq_true rfl) dX0_gateOfFewestElls_32 ⟨Nat.zero_le _, Nat.zero_le _⟩ rfl (fun H locs hw => ?_)
        refine lv_aload_n hx hb dX0_gateOfFewestElls_35 rfl (lv_at hl 1 rfl) ?_
        refine q_get hx hb hts hiX0 hown hw 1 xa_1 rfl 1 (by decide) (hts (.fieldLink RX0 21 "LaceRanks$Carnival" "lines" "LLaceRanks$Lines;") (by decide +kernel)) rfl dX0_gateOfFewestElls_36 ?_
        refine q_getN hx hb hts hiX3 hown hw 11 xa_11 rfl 1 (by decide) (nw_X0_191 hw.2.2.2.2) rfl dX0_gateOfFewestElls_39 ?_
        refine lv_iload_n hx hb dX0_gateOfFewestElls_42 rfl (lv_at hl 3 rfl) ?_
        obtain ⟨r4, hr4, hf⟩ := nmE hf
        refine q_callSN (rest := [.int r3]) (st1 := [.int r4, .int r3]) [.ref (ad 13), .int x2] ⟨hx, hb, hml, hown, hts⟩ (c_X5_at (q0 := 13) xa_13 hr4) ⟨va_cnB 2 hts gX0_gateOfFewestElls_X5_at_n67 rfl rfl rfl (nw_X0_67 hw.2.2.2.2) (hts (.initialized RX5) (by decide +kernel)) (by decide +kernel) ⟨Nat.le_of_ble_eq_true rfl, Nat.le_of_ble_eq_true rfl⟩, (hts (.static yX5_at) (by decide +kernel)), trivial⟩ hw rfl hl.1 rfl (Nat.le_of_ble_eq_true rfl) dX0_gateOfFewestElls_43 ⟨Nat.zero_le _, Nat.zero_le _⟩ rfl (fun H locs hw => ?_)
        refine lv_icmp_ge (tgt := 53) hx hb dX0_gateOfFewestElls_46 (by decide) (fun hc => ?_) (fun hc => ?_)
        · have hf := iteT hf hc
          refine lv_iconst (v := 0) hx hb dX0_gateOfFewestElls_53 (by decide) ?_
          exact B54 x1 x2 x3 (r1 - r2) 0 H locs ls hf hw (lv_sub hl [1, 2, 3, 4, 0] rfl)
        · have hf := iteF hf hc
          refine lv_iconst (v := 1) hx hb dX0_gateOfFewestElls_49 (by decide) ?_
          refine lv_goto (tgt := 54) hx hb dX0_gateOfFewestElls_50 (by decide) ?_
          exact B54 x1 x2 x3 (r1 - r2) 1 H locs ls hf hw (lv_sub hl [1, 2, 3, 4, 0] rfl)
  refine lv_iconst (v := 0) hx hb dX0_gateOfFewestElls_0 (by decide) ?_
  refine lv_istore_n (lv' := [(2, .int 0), (0, .ref (ad 1)), (1, .int a1)]) hx hb dX0_gateOfFewestElls_1 rfl hl (by decide) rfl (fun ls hl => ?_)
  refine lv_iconst (v := 1) hx hb dX0_gateOfFewestElls_2 (by decide) ?_
  refine lv_istore_n (lv' := [(3, .int 1), (2, .int 0), (0, .ref (ad 1)), (1, .int a1)]) hx hb dX0_gateOfFewestElls_3 rfl hl (by decide) rfl (fun ls hl => ?_)
  exact L4 fuelN a1 0 1 H locs ls hf hw (lv_sub hl [2, 3, 1, 0] rfl)

def f_X0_allowsLace (K : RK)  (a1 : Int32) (a2 : Int32) (a3 : Int32) : Option Int32 := bnd (f_X1_wornLace K a1) (fun r1 => nm (at_ 10 (K 0) a1) (fun r2 => bnd (f_X0_allowedElls K a2 r2 a3) (fun r3 => (if r3 < r1 then some 0 else some 1))))
set_option maxHeartbeats 4000000 in
set_option maxRecDepth 100000 in
theorem c_X0_allowsLace {l : Launch} {D : va_G} {cI cR : ClassId} {ad : Nat → Nat} {A : Nat → Prop} {O : XO} {K : RK}  {a1 : Int32} {a2 : Int32} {a3 : Int32} {r : Int32}  (hf : f_X0_allowsLace K a1 a2 a3 = some r) : MC l yX0_allowsLace wsX0_allowsLace 3 65 D cI cR A [.ref (ad 1), .int a1, .int a2, .int a3] (xws cI cR ad O K) (some (.int r)) (xws cI cR ad O K) := by
  refine Met.ofW (cc := cX0_allowsLace) (maxL := 4) (ret := (some .boolean)) (by decide) rfl ?_
  intro p e s m args below meth c s₁ B hml hv
  obtain ⟨rfl, hw⟩ := q_start hv
  have hx := B.exec
  have hb := B.bytes
  have hr := B.returns
  have hts := atoms_spec (ws := wsX0_allowsLace) B.pre
  have hown : s.vm.findClass RX0 = some m.cls := findClass_of_methodNamed B.named
  have hlocks := B.notSynchronized
  have hiX0 : ∀ w ∈ wsX00, w ∈ wsX0_allowsLace := by decide +kernel
  have hiX1 : ∀ w ∈ wsX10, w ∈ wsX0_allowsLace := by decide +kernel
  have hl := lv_entry ([.ref (ad 1), .int a1, .int a2, .int a3]) (n := 4) (Nat.le_of_ble_eq_true rfl)
  rw [lg_entry_eq]
  generalize (lg_sl ([.ref (ad 1), .int a1, .int a2, .int a3]) ++ List.replicate (4 - (lg_sl ([.ref (ad 1), .int a1, .int a2, .int a3])).length) Slot.unset).toArray = ls at hl ⊢
  have hl : lv_has ls 4 [(0, .ref (ad 1)), (1, .int a1), (2, .int a2), (3, .int a3)] := hl
  unfold f_X0_allowsLace at hf
  obtain ⟨H, eH⟩ : ∃ H, H = s.heap := ⟨_, rfl⟩
  obtain ⟨locs, eL⟩ : ∃ L : List Loc, L = [] := ⟨_, rfl⟩
  rw [← eH, ← eL] at hw ⊢
  clear eH eL
  refine lv_aload_n hx hb dX0_allowsLace_0 rfl (lv_at hl 0 rfl) ?_
  refine q_get hx hb hts hiX0 hown hw 1 xa_1 rfl 0 (by decide) (hts (.fieldLink RX0 12 "LaceRanks$Carnival" "guests" "LLaceRanks$Guests;") (by decide +kernel)) rfl dX0_allowsLace_1 ?_
  refine lv_iload_n hx hb dX0_allowsLace_4 rfl (lv_at hl 1 rfl) ?_
  obtain ⟨r1, hr1, hf⟩ := bndS hf
  refine q_callVN (rest := []) (st1 := [.int r1]) [.int a1] ⟨hx, hb, hml, hown, hts⟩ (c_X1_wornLace hr1) ⟨va_cnB 1 hts gX0_allowsLace_X1_wornLace_n109 rfl rfl rfl (nw_X0_109 hw.2.2.2.2) (hts (.initialized RX1) (by decide +kernel)) (by decide +kernel) ⟨Nat.le_of_ble_eq_true rfl, Nat.le_of_ble_eq_true rfl⟩, (hts (.instanceMethod yX1_wornLace) (by decide +kernel)), (hts (.selects RX1 yX1_wornLace yX1_wornLace) (by decide +kernel))⟩ hw xa_2 rfl rfl hl.1 rfl (Nat.le_of_ble_eq_true rfl) dX0_allowsLace_5 ⟨Nat.zero_le _, Nat.zero_le _⟩ rfl (fun H locs hw => ?_)
  refine lv_aload_n hx hb dX0_allowsLace_8 rfl (lv_at hl 0 rfl) ?_
  refine lv_iload_n hx hb dX0_allowsLace_9 rfl (lv_at hl 2 rfl) ?_
  refine lv_aload_n hx hb dX0_allowsLace_10 rfl (lv_at hl 0 rfl) ?_
  refine q_get hx hb hts hiX0 hown hw 1 xa_1 rfl 0 (by decide) (hts (.fieldLink RX0 12 "LaceRanks$Carnival" "guests" "LLaceRanks$Guests;") (by decide +kernel)) rfl dX0_allowsLace_11 ?_
  refine q_getN hx hb hts hiX1 hown hw 2 xa_2 rfl 0 (by decide) (nw_X0_112 hw.2.2.2.2) rfl dX0_allowsLace_14 ?_
  refine lv_iload_n hx hb dX0_allowsLace_17 rfl (lv_at hl 1 rfl) ?_
  obtain ⟨r2, hr2, hf⟩ := nmE hf
  refine q_callSN (rest := [.int a2, .ref (ad 1), .int r1]) (st1 := [.int r2, .int a2, .ref (ad 1), .int r1]) [.ref (ad 3), .int a1] ⟨hx, hb, hml, hown, hts⟩ (c_X5_at (q0 := 3) xa_3 hr2) ⟨va_cnB 2 hts gX0_allowsLace_X5_at_n67 rfl rfl rfl (nw_X0_67 hw.2.2.2.2) (hts (.initialized RX5) (by decide +kernel)) (by decide +kernel) ⟨Nat.le_of_ble_eq_true rfl, Nat.le_of_ble_eq_true rfl⟩, (hts (.static yX5_at) (by decide +kernel)), trivial⟩ hw rfl hl.1 rfl (Nat.le_of_ble_eq_true rfl) dX0_allowsLace_18 ⟨Nat.zero_le _, Nat.zero_le _⟩ rfl (fun H locs hw => ?_)
  refine lv_iload_n hx hb dX0_allowsLace_21 rfl (lv_at hl 3 rfl) ?_
  obtain ⟨r3, hr3, hf⟩ := bndS hf
  refine q_callV (rest := [.int r1]) (st1 := [.int r3, .int r1]) [.int a2, .int r2, .int a3] ⟨hx, hb, hml, hown, hts⟩ (c_X0_allowedElls hr3) (cwV 3 hts gX0_allowsLace_X0_allowedElls rfl rfl rfl (by decide +kernel) ⟨Nat.le_of_ble_eq_true rfl, Nat.le_of_ble_eq_true rfl⟩) hw xa_1 rfl rfl hl.1 rfl (Nat.le_of_ble_eq_true rfl) dX0_allowsLace_22 ⟨Nat.zero_le _, Nat.zero_le _⟩ rfl (fun H locs hw => ?_)
  refine lv_icmp_gt (tgt := 32) hx hb dX0_allowsLace_25 (by decide) (fun hc => ?_) (fun hc => ?_)
  · have hf := iteT hf hc
    refine lv_iconst (v := 0) hx hb dX0_allowsLace_32 (by decide) ?_
    cases hf
    exact q_zret hx hb hr nb_0 hlocks hw dX0_allowsLace_33
  · have hf := iteF hf hc
    refine lv_iconst (v := 1) hx hb dX0_allowsLace_28 (by decide) ?_
    refine lv_goto (tgt := 33) hx hb dX0_allowsLace_29 (by decide) ?_
    cases hf
    exact q_zret hx hb hr nb_1 hlocks hw dX0_allowsLace_33

def f_X0_nightsUntilAllowed_l2  (K : RK)  : Nat → Int32 → Int32 → Int32 → Option Int32
  | 0, _, _, _ => none
  | n2 + 1, x1, x2, x3 => (if 6 < x3 then some (-1) else bnd (f_X0_allowsLace K x1 x2 ((K 11 0) + x3)) (fun r1 => (if r1 = 0 then nm (x3 + 1) (fun v2 => (f_X0_nightsUntilAllowed_l2 K n2) x1 x2 v2) else some x3)))
def f_X0_nightsUntilAllowed (K : RK)  (a1 : Int32) (a2 : Int32) : Option Int32 := f_X0_nightsUntilAllowed_l2 K fuelN a1 a2 0
set_option maxHeartbeats 4000000 in
set_option maxRecDepth 100000 in
theorem c_X0_nightsUntilAllowed {l : Launch} {D : va_G} {cI cR : ClassId} {ad : Nat → Nat} {A : Nat → Prop} {O : XO} {K : RK}  {a1 : Int32} {a2 : Int32} {r : Int32}  (hf : f_X0_nightsUntilAllowed K a1 a2 = some r) : MC l yX0_nightsUntilAllowed wsX0_nightsUntilAllowed 4 88 D cI cR A [.ref (ad 1), .int a1, .int a2] (xws cI cR ad O K) (some (.int r)) (xws cI cR ad O K) := by
  refine Met.ofW (cc := cX0_nightsUntilAllowed) (maxL := 4) (ret := (some .int)) (by decide) rfl ?_
  intro p e s m args below meth c s₁ B hml hv
  obtain ⟨rfl, hw⟩ := q_start hv
  have hx := B.exec
  have hb := B.bytes
  have hr := B.returns
  have hts := atoms_spec (ws := wsX0_nightsUntilAllowed) B.pre
  have hown : s.vm.findClass RX0 = some m.cls := findClass_of_methodNamed B.named
  have hlocks := B.notSynchronized
  have hiX0 : ∀ w ∈ wsX00, w ∈ wsX0_nightsUntilAllowed := by decide +kernel
  have hl := lv_entry ([.ref (ad 1), .int a1, .int a2]) (n := 4) (Nat.le_of_ble_eq_true rfl)
  rw [lg_entry_eq]
  generalize (lg_sl ([.ref (ad 1), .int a1, .int a2]) ++ List.replicate (4 - (lg_sl ([.ref (ad 1), .int a1, .int a2])).length) Slot.unset).toArray = ls at hl ⊢
  have hl : lv_has ls 4 [(0, .ref (ad 1)), (1, .int a1), (2, .int a2)] := hl
  unfold f_X0_nightsUntilAllowed at hf
  obtain ⟨H, eH⟩ : ∃ H, H = s.heap := ⟨_, rfl⟩
  obtain ⟨locs, eL⟩ : ∃ L : List Loc, L = [] := ⟨_, rfl⟩
  rw [← eH, ← eL] at hw ⊢
  clear eH eL
  have L2 : ∀ (n2 : Nat) (x1 : Int32) (x2 : Int32) (x3 : Int32) (H : Heap) (locs : List Loc) (ls : Array Slot), f_X0_nightsUntilAllowed_l2 K n2 x1 x2 x3 = some r → WH D cI cR A (xws cI cR ad O K) s H locs → lv_has ls 4 [(0, .ref (ad 1)), (1, .int x1), (2, .int x2), (3, .int x3)] → W p l e (headSpec wsX0_nightsUntilAllowed ({ frames := 4, cells := 0, slots := 0, locals := 88 })).room s m ([.ref (ad 1), .int a1, .int a2] : List Value).toArray below meth c H locs 0 0 (MQ below (QV (some (.int r)) D A (xws cI cR ad O K)) (([.ref (ad 1), .int a1, .int a2] : List Value)).toArray s 0 0 A) (F0 m 2 ls []) := by
    intro n2
    induction n2 with
    | zero => intro x1 x2 x3 H locs ls hf; cases hf
    | succ n2 ih =>
      have ih2 := ih
      intro x1 x2 x3 H locs ls hf hw hl
      simp only [f_X0_nightsUntilAllowed_l2] at hf
      refine lv_iload_n hx hb dX0_nightsUntilAllowed_2 rfl (lv_at hl 3 rfl) ?_
      refine lv_bipush (v := 6) hx hb dX0_nightsUntilAllowed_3 (by decide) ?_
      refine lv_icmp_gt (tgt := 31) hx hb dX0_nightsUntilAllowed_5 (by decide) (fun hc => ?_) (fun hc => ?_)
      · have hf := iteT hf hc
        refine lv_iconst (v := (-1)) hx hb dX0_nightsUntilAllowed_31 (by decide) ?_
        cases hf
        exact q_iret hx hb hr hlocks hw dX0_nightsUntilAllowed_32
      · have hf := iteF hf hc
        refine lv_aload_n hx hb dX0_nightsUntilAllowed_8 rfl (lv_at hl 0 rfl) ?_
        refine lv_iload_n hx hb dX0_nightsUntilAllowed_9 rfl (lv_at hl 1 rfl) ?_
        refine lv_iload_n hx hb dX0_nightsUntilAllowed_10 rfl (lv_at hl 2 rfl) ?_
        refine lv_aload_n hx hb dX0_nightsUntilAllowed_11 rfl (lv_at hl 0 rfl) ?_
        refine q_get hx hb hts hiX0 hown hw 1 xa_1 rfl 3 (by decide) (hts (.fieldLink RX0 115 "LaceRanks$Carnival" "nightNumber" "I") (by decide +kernel)) rfl dX0_nightsUntilAllowed_12 ?_
        refine lv_iload_n hx hb dX0_nightsUntilAllowed_15 rfl (lv_at hl 3 rfl) ?_
        refine lv_iadd hx hb dX0_nightsUntilAllowed_16 ?_
        obtain ⟨r1, hr1, hf⟩ := bndS hf
        refine q_callV (rest := []) (st1 := [.int r1]) [.int x1, .int x2, .int ((K 11 0) + x3)] ⟨hx, hb, hml, hown, hts⟩ (c_X0_allowsLace hr1) (cwV 3 hts gX0_nightsUntilAllowed_X0_allowsLace rfl rfl rfl (by decide +kernel) ⟨Nat.le_of_ble_eq_true rfl, Nat.le_of_ble_eq_true rfl⟩) hw xa_1 rfl rfl hl.1 rfl (Nat.le_of_ble_eq_true rfl) dX0_nightsUntilAllowed_17 ⟨Nat.zero_le _, Nat.zero_le _⟩ rfl (fun H locs hw => ?_)
        refine lv_if_eq (tgt := 25) hx hb dX0_nightsUntilAllowed_20 (by decide) (fun hc => ?_) (fun hc => ?_)
        · have hf := iteT hf hc
          obtain ⟨v2, hv2, hf⟩ := nmE hf
          refine lv_iinc (v := v2) (lv' := [(3, .int v2), (0, .ref (ad 1)), (1, .int x1), (2, .int x2)]) hx hb dX0_nightsUntilAllowed_25 hl (k := 3) rfl (by rw [hv2]; rfl) (by decide) rfl (fun ls hl => ?_)
          refine lv_goto (tgt := 2) hx hb dX0_nightsUntilAllowed_28 (by decide) ?_
          exact ih2 x1 x2 v2 H locs ls hf hw (lv_sub hl [1, 2, 3, 0] rfl)
        · have hf := iteF hf hc
          refine lv_iload_n hx hb dX0_nightsUntilAllowed_23 rfl (lv_at hl 3 rfl) ?_
          cases hf
          exact q_iret hx hb hr hlocks hw dX0_nightsUntilAllowed_24
  refine lv_iconst (v := 0) hx hb dX0_nightsUntilAllowed_0 (by decide) ?_
  refine lv_istore_n (lv' := [(3, .int 0), (0, .ref (ad 1)), (1, .int a1), (2, .int a2)]) hx hb dX0_nightsUntilAllowed_1 rfl hl (by decide) rfl (fun ls hl => ?_)
  exact L2 fuelN a1 a2 0 H locs ls hf hw (lv_sub hl [1, 2, 3, 0] rfl)

def f_X0_shareOfDecent_b46 (k16 : Int32 → Int32 → Option UInt64) (K : RK)  (x2 : Int32) (y0 : Int32) (y1 : Int32) : Option UInt64 := nm (x2 + 1) (fun v1 => k16 (y1 + y0) v1)
def f_X0_shareOfDecent_l16  (K : RK)  : Nat → Int32 → Int32 → Option UInt64
  | 0, _, _ => none
  | n16 + 1, x1, x2 => (if (K 12 0) ≤ x2 then gd (n64b (FP.ddiv (FP.i2d x1) (FP.i2d (K 12 0)))) (some (FP.ddiv (FP.i2d x1) (FP.i2d (K 12 0)))) else bnd (f_X0_allowsLace K x2 0 (K 11 0)) (fun r1 => (if r1 = 0 then f_X0_shareOfDecent_b46 (f_X0_shareOfDecent_l16 K n16) K x2 0 x1 else f_X0_shareOfDecent_b46 (f_X0_shareOfDecent_l16 K n16) K x2 1 x1)))
def f_X0_shareOfDecent (K : RK)   : Option UInt64 := (if 0 < (K 12 0) then f_X0_shareOfDecent_l16 K fuelN 0 0 else some FP.dconst1)
set_option maxHeartbeats 4000000 in
set_option maxRecDepth 100000 in
theorem c_X0_shareOfDecent {l : Launch} {D : va_G} {cI cR : ClassId} {ad : Nat → Nat} {A : Nat → Prop} {O : XO} {K : RK}   {r : UInt64}  (hf : f_X0_shareOfDecent K = some r) : MC l yX0_shareOfDecent wsX0_shareOfDecent 4 88 D cI cR A [.ref (ad 1)] (xws cI cR ad O K) (some (.double r)) (xws cI cR ad O K) := by
  refine Met.ofW (cc := cX0_shareOfDecent) (maxL := 3) (ret := (some .double)) (by decide) rfl ?_
  intro p e s m args below meth c s₁ B hml hv
  obtain ⟨rfl, hw⟩ := q_start hv
  have hx := B.exec
  have hb := B.bytes
  have hr := B.returns
  have hts := atoms_spec (ws := wsX0_shareOfDecent) B.pre
  have hown : s.vm.findClass RX0 = some m.cls := findClass_of_methodNamed B.named
  have hlocks := B.notSynchronized
  have hiX0 : ∀ w ∈ wsX00, w ∈ wsX0_shareOfDecent := by decide +kernel
  have hiX1 : ∀ w ∈ wsX10, w ∈ wsX0_shareOfDecent := by decide +kernel
  have hl := lv_entry ([.ref (ad 1)]) (n := 3) (Nat.le_of_ble_eq_true rfl)
  rw [lg_entry_eq]
  generalize (lg_sl ([.ref (ad 1)]) ++ List.replicate (3 - (lg_sl ([.ref (ad 1)])).length) Slot.unset).toArray = ls at hl ⊢
  have hl : lv_has ls 3 [(0, .ref (ad 1))] := hl
  unfold f_X0_shareOfDecent at hf
  obtain ⟨H, eH⟩ : ∃ H, H = s.heap := ⟨_, rfl⟩
  obtain ⟨locs, eL⟩ : ∃ L : List Loc, L = [] := ⟨_, rfl⟩
  rw [← eH, ← eL] at hw ⊢
  clear eH eL
  have L16 : ∀ (n16 : Nat) (x1 : Int32) (x2 : Int32) (H : Heap) (locs : List Loc) (ls : Array Slot), f_X0_shareOfDecent_l16 K n16 x1 x2 = some r → WH D cI cR A (xws cI cR ad O K) s H locs → lv_has ls 3 [(0, .ref (ad 1)), (1, .int x1), (2, .int x2)] → W p l e (headSpec wsX0_shareOfDecent ({ frames := 4, cells := 0, slots := 0, locals := 88 })).room s m ([.ref (ad 1)] : List Value).toArray below meth c H locs 0 0 (MQ below (QV (some (.double r)) D A (xws cI cR ad O K)) (([.ref (ad 1)] : List Value)).toArray s 0 0 A) (F0 m 16 ls []) := by
    intro n16
    induction n16 with
    | zero => intro x1 x2 H locs ls hf; cases hf
    | succ n16 ih =>
      have ih16 := ih
      have B46 : ∀ (x2 : Int32) (y0 : Int32) (y1 : Int32) (H : Heap) (locs : List Loc) (ls : Array Slot), f_X0_shareOfDecent_b46 (f_X0_shareOfDecent_l16 K n16) K x2 y0 y1 = some r → WH D cI cR A (xws cI cR ad O K) s H locs → lv_has ls 3 [(0, .ref (ad 1)), (2, .int x2)] → W p l e (headSpec wsX0_shareOfDecent ({ frames := 4, cells := 0, slots := 0, locals := 88 })).room s m ([.ref (ad 1)] : List Value).toArray below meth c H locs 0 0 (MQ below (QV (some (.double r)) D A (xws cI cR ad O K)) (([.ref (ad 1)] : List Value)).toArray s 0 0 A) (F0 m 46 ls [.int y0, .int y1]) := by
        intro x2 y0 y1 H locs ls hf hw hl
        unfold f_X0_shareOfDecent_b46 at hf
        refine lv_iadd hx hb dX0_shareOfDecent_46 ?_
        refine lv_istore_n (lv' := [(1, .int (y1 + y0)), (0, .ref (ad 1)), (2, .int x2)]) hx hb dX0_shareOfDecent_47 rfl hl (by decide) rfl (fun ls hl => ?_)
        obtain ⟨v1, hv1, hf⟩ := nmE hf
        refine lv_iinc (v := v1) (lv' := [(2, .int v1), (1, .int (y1 + y0)), (0, .ref (ad 1))]) hx hb dX0_shareOfDecent_48 hl (k := 2) rfl (by rw [hv1]; rfl) (by decide) rfl (fun ls hl => ?_)
        refine lv_goto (tgt := 16) hx hb dX0_shareOfDecent_51 (by decide) ?_
        exact ih16 (y1 + y0) v1 H locs ls hf hw (lv_sub hl [2, 1, 0] rfl)
      intro x1 x2 H locs ls hf hw hl
      simp only [f_X0_shareOfDecent_l16] at hf
      refine lv_iload_n hx hb dX0_shareOfDecent_16 rfl (lv_at hl 2 rfl) ?_
      refine lv_aload_n hx hb dX0_shareOfDecent_17 rfl (lv_at hl 0 rfl) ?_
      refine q_get hx hb hts hiX0 hown hw 1 xa_1 rfl 0 (by decide) (hts (.fieldLink RX0 12 "LaceRanks$Carnival" "guests" "LLaceRanks$Guests;") (by decide +kernel)) rfl dX0_shareOfDecent_18 ?_
      refine q_getN hx hb hts hiX1 hown hw 2 xa_2 rfl 8 (by decide) (nw_X0_158 hw.2.2.2.2) rfl dX0_shareOfDecent_21 ?_
      refine lv_icmp_ge (tgt := 54) hx hb dX0_shareOfDecent_24 (by decide) (fun hc => ?_) (fun hc => ?_)
      · have hf := iteT hf hc
        refine lv_iload_n hx hb dX0_shareOfDecent_54 rfl (lv_at hl 1 rfl) ?_
        refine lv_i2d hx hb dX0_shareOfDecent_55 ?_
        refine lv_aload_n hx hb dX0_shareOfDecent_56 rfl (lv_at hl 0 rfl) ?_
        refine q_get hx hb hts hiX0 hown hw 1 xa_1 rfl 0 (by decide) (hts (.fieldLink RX0 12 "LaceRanks$Carnival" "guests" "LLaceRanks$Guests;") (by decide +kernel)) rfl dX0_shareOfDecent_57 ?_
        refine q_getN hx hb hts hiX1 hown hw 2 xa_2 rfl 8 (by decide) (nw_X0_158 hw.2.2.2.2) rfl dX0_shareOfDecent_60 ?_
        refine lv_i2d hx hb dX0_shareOfDecent_63 ?_
        obtain ⟨hg, hf⟩ := gdE hf
        refine lv_ddiv hx hb dX0_shareOfDecent_64 (n64b_ok hg) ?_
        cases hf
        exact q_dret hx hb hr hlocks hw dX0_shareOfDecent_65
      · have hf := iteF hf hc
        refine lv_iload_n hx hb dX0_shareOfDecent_27 rfl (lv_at hl 1 rfl) ?_
        refine lv_aload_n hx hb dX0_shareOfDecent_28 rfl (lv_at hl 0 rfl) ?_
        refine lv_iload_n hx hb dX0_shareOfDecent_29 rfl (lv_at hl 2 rfl) ?_
        refine lv_iconst (v := 0) hx hb dX0_shareOfDecent_30 (by decide) ?_
        refine lv_aload_n hx hb dX0_shareOfDecent_31 rfl (lv_at hl 0 rfl) ?_
        refine q_get hx hb hts hiX0 hown hw 1 xa_1 rfl 3 (by decide) (hts (.fieldLink RX0 115 "LaceRanks$Carnival" "nightNumber" "I") (by decide +kernel)) rfl dX0_shareOfDecent_32 ?_
        obtain ⟨r1, hr1, hf⟩ := bndS hf
        refine q_callV (rest := [.int x1]) (st1 := [.int r1, .int x1]) [.int x2, .int 0, .int (K 11 0)] ⟨hx, hb, hml, hown, hts⟩ (c_X0_allowsLace hr1) (cwV 3 hts gX0_shareOfDecent_X0_allowsLace rfl rfl rfl (by decide +kernel) ⟨Nat.le_of_ble_eq_true rfl, Nat.le_of_ble_eq_true rfl⟩) hw xa_1 rfl rfl hl.1 rfl (Nat.le_of_ble_eq_true rfl) dX0_shareOfDecent_35 ⟨Nat.zero_le _, Nat.zero_le _⟩ rfl (fun H locs hw => ?_)
        refine lv_if_eq (tgt := 45) hx hb dX0_shareOfDecent_38 (by decide) (fun hc => ?_) (fun hc => ?_)
        · have hf := iteT hf hc
          refine lv_iconst (v := 0) hx hb dX0_shareOfDecent_45 (by decide) ?_
          exact B46 x2 0 x1 H locs ls hf hw (lv_sub hl [0, 2] rfl)
        · have hf := iteF hf hc
          refine lv_iconst (v := 1) hx hb dX0_shareOfDecent_41 (by decide) ?_
          refine lv_goto (tgt := 46) hx hb dX0_shareOfDecent_42 (by decide) ?_
          exact B46 x2 1 x1 H locs ls hf hw (lv_sub hl [0, 2] rfl)
  refine lv_aload_n hx hb dX0_shareOfDecent_0 rfl (lv_at hl 0 rfl) ?_
  refine q_get hx hb hts hiX0 hown hw 1 xa_1 rfl 0 (by decide) (hts (.fieldLink RX0 12 "LaceRanks$Carnival" "guests" "LLaceRanks$Guests;") (by decide +kernel)) rfl dX0_shareOfDecent_1 ?_
  refine q_getN hx hb hts hiX1 hown hw 2 xa_2 rfl 8 (by decide) (nw_X0_158 hw.2.2.2.2) rfl dX0_shareOfDecent_4 ?_
  refine lv_if_gt (tgt := 12) hx hb dX0_shareOfDecent_7 (by decide) (fun hc => ?_) (fun hc => ?_)
  · have hf := iteT hf hc
    refine lv_iconst (v := 0) hx hb dX0_shareOfDecent_12 (by decide) ?_
    refine lv_istore_n (lv' := [(1, .int 0), (0, .ref (ad 1))]) hx hb dX0_shareOfDecent_13 rfl hl (by decide) rfl (fun ls hl => ?_)
    refine lv_iconst (v := 0) hx hb dX0_shareOfDecent_14 (by decide) ?_
    refine lv_istore_n (lv' := [(2, .int 0), (1, .int 0), (0, .ref (ad 1))]) hx hb dX0_shareOfDecent_15 rfl hl (by decide) rfl (fun ls hl => ?_)
    exact L16 fuelN 0 0 H locs ls hf hw (lv_sub hl [2, 1, 0] rfl)
  · have hf := iteF hf hc
    refine lv_dconst1 hx hb dX0_shareOfDecent_10 ?_
    cases hf
    exact q_dret hx hb hr hlocks hw dX0_shareOfDecent_11

def f_X0_guestNumber (K : RK)  (a1 : Int32) (a2 : Int32) : Option Int32 := (if a2 = 0 then nm (at_ 10 (K 0) a1) (fun r1 => some r1) else (if a2 = 1 then nm (at_ 10 (K 1) a1) (fun r2 => some r2) else (if a2 = 2 then nm (at_ 10 (K 2) a1) (fun r3 => some r3) else (if a2 = 3 then nm (at_ 10 (K 3) a1) (fun r4 => some r4) else (if a2 = 4 then bnd (f_X1_wornCoat K a1) (fun r5 => some r5) else (if a2 = 5 then bnd (f_X1_wornLace K a1) (fun r6 => some r6) else (if a2 = 6 then nm (at_ 10 (K 6) a1) (fun r7 => some r7) else (if a2 = 7 then nm (at_ 10 (K 7) a1) (fun r8 => some r8) else (if a2 = 8 then bnd (f_X3_gateOf K a1) (fun r9 => some r9) else (if a2 = 9 then bnd (f_X3_placeOf K a1) (fun r10 => some r10) else (nm (at_ 10 (K 5) a1) (fun r11 => some r11))))))))))))
set_option maxHeartbeats 4000000 in
set_option maxRecDepth 100000 in
theorem c_X0_guestNumber {l : Launch} {D : va_G} {cI cR : ClassId} {ad : Nat → Nat} {A : Nat → Prop} {O : XO} {K : RK}  {a1 : Int32} {a2 : Int32} {r : Int32}  (hf : f_X0_guestNumber K a1 a2 = some r) : MC l yX0_guestNumber wsX0_guestNumber 3 67 D cI cR A [.ref (ad 1), .int a1, .int a2] (xws cI cR ad O K) (some (.int r)) (xws cI cR ad O K) := by
  refine Met.ofW (cc := cX0_guestNumber) (maxL := 3) (ret := (some .int)) (by decide) rfl ?_
  intro p e s m args below meth c s₁ B hml hv
  obtain ⟨rfl, hw⟩ := q_start hv
  have hx := B.exec
  have hb := B.bytes
  have hr := B.returns
  have hts := atoms_spec (ws := wsX0_guestNumber) B.pre
  have hown : s.vm.findClass RX0 = some m.cls := findClass_of_methodNamed B.named
  have hlocks := B.notSynchronized
  have hiX0 : ∀ w ∈ wsX00, w ∈ wsX0_guestNumber := by decide +kernel
  have hiX1 : ∀ w ∈ wsX10, w ∈ wsX0_guestNumber := by decide +kernel
  have hl := lv_entry ([.ref (ad 1), .int a1, .int a2]) (n := 3) (Nat.le_of_ble_eq_true rfl)
  rw [lg_entry_eq]
  generalize (lg_sl ([.ref (ad 1), .int a1, .int a2]) ++ List.replicate (3 - (lg_sl ([.ref (ad 1), .int a1, .int a2])).length) Slot.unset).toArray = ls at hl ⊢
  have hl : lv_has ls 3 [(0, .ref (ad 1)), (1, .int a1), (2, .int a2)] := hl
  unfold f_X0_guestNumber at hf
  obtain ⟨H, eH⟩ : ∃ H, H = s.heap := ⟨_, rfl⟩
  obtain ⟨locs, eL⟩ : ∃ L : List Loc, L = [] := ⟨_, rfl⟩
  rw [← eH, ← eL] at hw ⊢
  clear eH eL
  refine lv_iload_n hx hb dX0_guestNumber_0 rfl (lv_at hl 2 rfl) ?_
  by_cases hc0 : a2 = 0
  · have hf := iteT hf hc0
    refine lv_tableIn (tgt := 56) hx hb dX0_guestNumber_1 (by rw [hc0]; decide) (by rw [hc0]; decide) (by rw [hc0]; rfl) (by decide) ?_
    refine lv_aload_n hx hb dX0_guestNumber_56 rfl (lv_at hl 0 rfl) ?_
    refine q_get hx hb hts hiX0 hown hw 1 xa_1 rfl 0 (by decide) (hts (.fieldLink RX0 12 "LaceRanks$Carnival" "guests" "LLaceRanks$Guests;") (by decide +kernel)) rfl dX0_guestNumber_57 ?_
    refine q_getN hx hb hts hiX1 hown hw 2 xa_2 rfl 0 (by decide) (nw_X0_112 hw.2.2.2.2) rfl dX0_guestNumber_60 ?_
    refine lv_iload_n hx hb dX0_guestNumber_63 rfl (lv_at hl 1 rfl) ?_
    obtain ⟨r1, hr1, hf⟩ := nmE hf
    refine q_callSN (rest := []) (st1 := [.int r1]) [.ref (ad 3), .int a1] ⟨hx, hb, hml, hown, hts⟩ (c_X5_at (q0 := 3) xa_3 hr1) ⟨va_cnB 2 hts gX0_guestNumber_X5_at_n67 rfl rfl rfl (nw_X0_67 hw.2.2.2.2) (hts (.initialized RX5) (by decide +kernel)) (by decide +kernel) ⟨Nat.le_of_ble_eq_true rfl, Nat.le_of_ble_eq_true rfl⟩, (hts (.static yX5_at) (by decide +kernel)), trivial⟩ hw rfl hl.1 rfl (Nat.le_of_ble_eq_true rfl) dX0_guestNumber_64 ⟨Nat.zero_le _, Nat.zero_le _⟩ rfl (fun H locs hw => ?_)
    cases hf
    exact q_iret hx hb hr hlocks hw dX0_guestNumber_67
  replace hf := iteF hf hc0
  by_cases hc1 : a2 = 1
  · have hf := iteT hf hc1
    refine lv_tableIn (tgt := 68) hx hb dX0_guestNumber_1 (by rw [hc1]; decide) (by rw [hc1]; decide) (by rw [hc1]; rfl) (by decide) ?_
    refine lv_aload_n hx hb dX0_guestNumber_68 rfl (lv_at hl 0 rfl) ?_
    refine q_get hx hb hts hiX0 hown hw 1 xa_1 rfl 0 (by decide) (hts (.fieldLink RX0 12 "LaceRanks$Carnival" "guests" "LLaceRanks$Guests;") (by decide +kernel)) rfl dX0_guestNumber_69 ?_
    refine q_getN hx hb hts hiX1 hown hw 2 xa_2 rfl 1 (by decide) (nw_X0_71 hw.2.2.2.2) rfl dX0_guestNumber_72 ?_
    refine lv_iload_n hx hb dX0_guestNumber_75 rfl (lv_at hl 1 rfl) ?_
    obtain ⟨r2, hr2, hf⟩ := nmE hf
    refine q_callSN (rest := []) (st1 := [.int r2]) [.ref (ad 4), .int a1] ⟨hx, hb, hml, hown, hts⟩ (c_X5_at (q0 := 4) xa_4 hr2) ⟨va_cnB 2 hts gX0_guestNumber_X5_at_n67 rfl rfl rfl (nw_X0_67 hw.2.2.2.2) (hts (.initialized RX5) (by decide +kernel)) (by decide +kernel) ⟨Nat.le_of_ble_eq_true rfl, Nat.le_of_ble_eq_true rfl⟩, (hts (.static yX5_at) (by decide +kernel)), trivial⟩ hw rfl hl.1 rfl (Nat.le_of_ble_eq_true rfl) dX0_guestNumber_76 ⟨Nat.zero_le _, Nat.zero_le _⟩ rfl (fun H locs hw => ?_)
    cases hf
    exact q_iret hx hb hr hlocks hw dX0_guestNumber_79
  replace hf := iteF hf hc1
  by_cases hc2 : a2 = 2
  · have hf := iteT hf hc2
    refine lv_tableIn (tgt := 80) hx hb dX0_guestNumber_1 (by rw [hc2]; decide) (by rw [hc2]; decide) (by rw [hc2]; rfl) (by decide) ?_
    refine lv_aload_n hx hb dX0_guestNumber_80 rfl (lv_at hl 0 rfl) ?_
    refine q_get hx hb hts hiX0 hown hw 1 xa_1 rfl 0 (by decide) (hts (.fieldLink RX0 12 "LaceRanks$Carnival" "guests" "LLaceRanks$Guests;") (by decide +kernel)) rfl dX0_guestNumber_81 ?_
    refine q_getN hx hb hts hiX1 hown hw 2 xa_2 rfl 2 (by decide) (nw_X0_64 hw.2.2.2.2) rfl dX0_guestNumber_84 ?_
    refine lv_iload_n hx hb dX0_guestNumber_87 rfl (lv_at hl 1 rfl) ?_
    obtain ⟨r3, hr3, hf⟩ := nmE hf
    refine q_callSN (rest := []) (st1 := [.int r3]) [.ref (ad 5), .int a1] ⟨hx, hb, hml, hown, hts⟩ (c_X5_at (q0 := 5) xa_5 hr3) ⟨va_cnB 2 hts gX0_guestNumber_X5_at_n67 rfl rfl rfl (nw_X0_67 hw.2.2.2.2) (hts (.initialized RX5) (by decide +kernel)) (by decide +kernel) ⟨Nat.le_of_ble_eq_true rfl, Nat.le_of_ble_eq_true rfl⟩, (hts (.static yX5_at) (by decide +kernel)), trivial⟩ hw rfl hl.1 rfl (Nat.le_of_ble_eq_true rfl) dX0_guestNumber_88 ⟨Nat.zero_le _, Nat.zero_le _⟩ rfl (fun H locs hw => ?_)
    cases hf
    exact q_iret hx hb hr hlocks hw dX0_guestNumber_91
  replace hf := iteF hf hc2
  by_cases hc3 : a2 = 3
  · have hf := iteT hf hc3
    refine lv_tableIn (tgt := 92) hx hb dX0_guestNumber_1 (by rw [hc3]; decide) (by rw [hc3]; decide) (by rw [hc3]; rfl) (by decide) ?_
    refine lv_aload_n hx hb dX0_guestNumber_92 rfl (lv_at hl 0 rfl) ?_
    refine q_get hx hb hts hiX0 hown hw 1 xa_1 rfl 0 (by decide) (hts (.fieldLink RX0 12 "LaceRanks$Carnival" "guests" "LLaceRanks$Guests;") (by decide +kernel)) rfl dX0_guestNumber_93 ?_
    refine q_getN hx hb hts hiX1 hown hw 2 xa_2 rfl 3 (by decide) (nw_X0_74 hw.2.2.2.2) rfl dX0_guestNumber_96 ?_
    refine lv_iload_n hx hb dX0_guestNumber_99 rfl (lv_at hl 1 rfl) ?_
    obtain ⟨r4, hr4, hf⟩ := nmE hf
    refine q_callSN (rest := []) (st1 := [.int r4]) [.ref (ad 6), .int a1] ⟨hx, hb, hml, hown, hts⟩ (c_X5_at (q0 := 6) xa_6 hr4) ⟨va_cnB 2 hts gX0_guestNumber_X5_at_n67 rfl rfl rfl (nw_X0_67 hw.2.2.2.2) (hts (.initialized RX5) (by decide +kernel)) (by decide +kernel) ⟨Nat.le_of_ble_eq_true rfl, Nat.le_of_ble_eq_true rfl⟩, (hts (.static yX5_at) (by decide +kernel)), trivial⟩ hw rfl hl.1 rfl (Nat.le_of_ble_eq_true rfl) dX0_guestNumber_100 ⟨Nat.zero_le _, Nat.zero_le _⟩ rfl (fun H locs hw => ?_)
    cases hf
    exact q_iret hx hb hr hlocks hw dX0_guestNumber_103
  replace hf := iteF hf hc3
  by_cases hc4 : a2 = 4
  · have hf := iteT hf hc4
    refine lv_tableIn (tgt := 104) hx hb dX0_guestNumber_1 (by rw [hc4]; decide) (by rw [hc4]; decide) (by rw [hc4]; rfl) (by decide) ?_
    refine lv_aload_n hx hb dX0_guestNumber_104 rfl (lv_at hl 0 rfl) ?_
    refine q_get hx hb hts hiX0 hown hw 1 xa_1 rfl 0 (by decide) (hts (.fieldLink RX0 12 "LaceRanks$Carnival" "guests" "LLaceRanks$Guests;") (by decide +kernel)) rfl dX0_guestNumber_105 ?_
    refine lv_iload_n hx hb dX0_guestNumber_108 rfl (lv_at hl 1 rfl) ?_
    obtain ⟨r5, hr5, hf⟩ := bndS hf
    refine q_callVN (rest := []) (st1 := [.int r5]) [.int a1] ⟨hx, hb, hml, hown, hts⟩ (c_X1_wornCoat hr5) ⟨va_cnB 1 hts gX0_guestNumber_X1_wornCoat_n53 rfl rfl rfl (nw_X0_53 hw.2.2.2.2) (hts (.initialized RX1) (by decide +kernel)) (by decide +kernel) ⟨Nat.le_of_ble_eq_true rfl, Nat.le_of_ble_eq_true rfl⟩, (hts (.instanceMethod yX1_wornCoat) (by decide +kernel)), (hts (.selects RX1 yX1_wornCoat yX1_wornCoat) (by decide +kernel))⟩ hw xa_2 rfl rfl hl.1 rfl (Nat.le_of_ble_eq_true rfl) dX0_guestNumber_109 ⟨Nat.zero_le _, Nat.zero_le _⟩ rfl (fun H locs hw => ?_)
    cases hf
    exact q_iret hx hb hr hlocks hw dX0_guestNumber_112
  replace hf := iteF hf hc4
  by_cases hc5 : a2 = 5
  · have hf := iteT hf hc5
    refine lv_tableIn (tgt := 113) hx hb dX0_guestNumber_1 (by rw [hc5]; decide) (by rw [hc5]; decide) (by rw [hc5]; rfl) (by decide) ?_
    refine lv_aload_n hx hb dX0_guestNumber_113 rfl (lv_at hl 0 rfl) ?_
    refine q_get hx hb hts hiX0 hown hw 1 xa_1 rfl 0 (by decide) (hts (.fieldLink RX0 12 "LaceRanks$Carnival" "guests" "LLaceRanks$Guests;") (by decide +kernel)) rfl dX0_guestNumber_114 ?_
    refine lv_iload_n hx hb dX0_guestNumber_117 rfl (lv_at hl 1 rfl) ?_
    obtain ⟨r6, hr6, hf⟩ := bndS hf
    refine q_callVN (rest := []) (st1 := [.int r6]) [.int a1] ⟨hx, hb, hml, hown, hts⟩ (c_X1_wornLace hr6) ⟨va_cnB 1 hts gX0_guestNumber_X1_wornLace_n109 rfl rfl rfl (nw_X0_109 hw.2.2.2.2) (hts (.initialized RX1) (by decide +kernel)) (by decide +kernel) ⟨Nat.le_of_ble_eq_true rfl, Nat.le_of_ble_eq_true rfl⟩, (hts (.instanceMethod yX1_wornLace) (by decide +kernel)), (hts (.selects RX1 yX1_wornLace yX1_wornLace) (by decide +kernel))⟩ hw xa_2 rfl rfl hl.1 rfl (Nat.le_of_ble_eq_true rfl) dX0_guestNumber_118 ⟨Nat.zero_le _, Nat.zero_le _⟩ rfl (fun H locs hw => ?_)
    cases hf
    exact q_iret hx hb hr hlocks hw dX0_guestNumber_121
  replace hf := iteF hf hc5
  by_cases hc6 : a2 = 6
  · have hf := iteT hf hc6
    refine lv_tableIn (tgt := 122) hx hb dX0_guestNumber_1 (by rw [hc6]; decide) (by rw [hc6]; decide) (by rw [hc6]; rfl) (by decide) ?_
    refine lv_aload_n hx hb dX0_guestNumber_122 rfl (lv_at hl 0 rfl) ?_
    refine q_get hx hb hts hiX0 hown hw 1 xa_1 rfl 0 (by decide) (hts (.fieldLink RX0 12 "LaceRanks$Carnival" "guests" "LLaceRanks$Guests;") (by decide +kernel)) rfl dX0_guestNumber_123 ?_
    refine q_getN hx hb hts hiX1 hown hw 2 xa_2 rfl 6 (by decide) (nw_X0_94 hw.2.2.2.2) rfl dX0_guestNumber_126 ?_
    refine lv_iload_n hx hb dX0_guestNumber_129 rfl (lv_at hl 1 rfl) ?_
    obtain ⟨r7, hr7, hf⟩ := nmE hf
    refine q_callSN (rest := []) (st1 := [.int r7]) [.ref (ad 9), .int a1] ⟨hx, hb, hml, hown, hts⟩ (c_X5_at (q0 := 9) xa_9 hr7) ⟨va_cnB 2 hts gX0_guestNumber_X5_at_n67 rfl rfl rfl (nw_X0_67 hw.2.2.2.2) (hts (.initialized RX5) (by decide +kernel)) (by decide +kernel) ⟨Nat.le_of_ble_eq_true rfl, Nat.le_of_ble_eq_true rfl⟩, (hts (.static yX5_at) (by decide +kernel)), trivial⟩ hw rfl hl.1 rfl (Nat.le_of_ble_eq_true rfl) dX0_guestNumber_130 ⟨Nat.zero_le _, Nat.zero_le _⟩ rfl (fun H locs hw => ?_)
    cases hf
    exact q_iret hx hb hr hlocks hw dX0_guestNumber_133
  replace hf := iteF hf hc6
  by_cases hc7 : a2 = 7
  · have hf := iteT hf hc7
    refine lv_tableIn (tgt := 134) hx hb dX0_guestNumber_1 (by rw [hc7]; decide) (by rw [hc7]; decide) (by rw [hc7]; rfl) (by decide) ?_
    refine lv_aload_n hx hb dX0_guestNumber_134 rfl (lv_at hl 0 rfl) ?_
    refine q_get hx hb hts hiX0 hown hw 1 xa_1 rfl 0 (by decide) (hts (.fieldLink RX0 12 "LaceRanks$Carnival" "guests" "LLaceRanks$Guests;") (by decide +kernel)) rfl dX0_guestNumber_135 ?_
    refine q_getN hx hb hts hiX1 hown hw 2 xa_2 rfl 7 (by decide) (nw_X0_146 hw.2.2.2.2) rfl dX0_guestNumber_138 ?_
    refine lv_iload_n hx hb dX0_guestNumber_141 rfl (lv_at hl 1 rfl) ?_
    obtain ⟨r8, hr8, hf⟩ := nmE hf
    refine q_callSN (rest := []) (st1 := [.int r8]) [.ref (ad 10), .int a1] ⟨hx, hb, hml, hown, hts⟩ (c_X5_at (q0 := 10) xa_10 hr8) ⟨va_cnB 2 hts gX0_guestNumber_X5_at_n67 rfl rfl rfl (nw_X0_67 hw.2.2.2.2) (hts (.initialized RX5) (by decide +kernel)) (by decide +kernel) ⟨Nat.le_of_ble_eq_true rfl, Nat.le_of_ble_eq_true rfl⟩, (hts (.static yX5_at) (by decide +kernel)), trivial⟩ hw rfl hl.1 rfl (Nat.le_of_ble_eq_true rfl) dX0_guestNumber_142 ⟨Nat.zero_le _, Nat.zero_le _⟩ rfl (fun H locs hw => ?_)
    cases hf
    exact q_iret hx hb hr hlocks hw dX0_guestNumber_145
  replace hf := iteF hf hc7
  by_cases hc8 : a2 = 8
  · have hf := iteT hf hc8
    refine lv_tableIn (tgt := 146) hx hb dX0_guestNumber_1 (by rw [hc8]; decide) (by rw [hc8]; decide) (by rw [hc8]; rfl) (by decide) ?_
    refine lv_aload_n hx hb dX0_guestNumber_146 rfl (lv_at hl 0 rfl) ?_
    refine q_get hx hb hts hiX0 hown hw 1 xa_1 rfl 1 (by decide) (hts (.fieldLink RX0 21 "LaceRanks$Carnival" "lines" "LLaceRanks$Lines;") (by decide +kernel)) rfl dX0_guestNumber_147 ?_
    refine lv_iload_n hx hb dX0_guestNumber_150 rfl (lv_at hl 1 rfl) ?_
    obtain ⟨r9, hr9, hf⟩ := bndS hf
    refine q_callVN (rest := []) (st1 := [.int r9]) [.int a1] ⟨hx, hb, hml, hown, hts⟩ (c_X3_gateOf hr9) ⟨va_cnB 1 hts gX0_guestNumber_X3_gateOf_n61 rfl rfl rfl (nw_X0_61 hw.2.2.2.2) (hts (.initialized RX3) (by decide +kernel)) (by decide +kernel) ⟨Nat.le_of_ble_eq_true rfl, Nat.le_of_ble_eq_true rfl⟩, (hts (.instanceMethod yX3_gateOf) (by decide +kernel)), (hts (.selects RX3 yX3_gateOf yX3_gateOf) (by decide +kernel))⟩ hw xa_11 rfl rfl hl.1 rfl (Nat.le_of_ble_eq_true rfl) dX0_guestNumber_151 ⟨Nat.zero_le _, Nat.zero_le _⟩ rfl (fun H locs hw => ?_)
    cases hf
    exact q_iret hx hb hr hlocks hw dX0_guestNumber_154
  replace hf := iteF hf hc8
  by_cases hc9 : a2 = 9
  · have hf := iteT hf hc9
    refine lv_tableIn (tgt := 155) hx hb dX0_guestNumber_1 (by rw [hc9]; decide) (by rw [hc9]; decide) (by rw [hc9]; rfl) (by decide) ?_
    refine lv_aload_n hx hb dX0_guestNumber_155 rfl (lv_at hl 0 rfl) ?_
    refine q_get hx hb hts hiX0 hown hw 1 xa_1 rfl 1 (by decide) (hts (.fieldLink RX0 21 "LaceRanks$Carnival" "lines" "LLaceRanks$Lines;") (by decide +kernel)) rfl dX0_guestNumber_156 ?_
    refine lv_iload_n hx hb dX0_guestNumber_159 rfl (lv_at hl 1 rfl) ?_
    obtain ⟨r10, hr10, hf⟩ := bndS hf
    refine q_callVN (rest := []) (st1 := [.int r10]) [.int a1] ⟨hx, hb, hml, hown, hts⟩ (c_X3_placeOf hr10) ⟨va_cnB 1 hts gX0_guestNumber_X3_placeOf_n198 rfl rfl rfl (nw_X0_198 hw.2.2.2.2) (hts (.initialized RX3) (by decide +kernel)) (by decide +kernel) ⟨Nat.le_of_ble_eq_true rfl, Nat.le_of_ble_eq_true rfl⟩, (hts (.instanceMethod yX3_placeOf) (by decide +kernel)), (hts (.selects RX3 yX3_placeOf yX3_placeOf) (by decide +kernel))⟩ hw xa_11 rfl rfl hl.1 rfl (Nat.le_of_ble_eq_true rfl) dX0_guestNumber_160 ⟨Nat.zero_le _, Nat.zero_le _⟩ rfl (fun H locs hw => ?_)
    cases hf
    exact q_iret hx hb hr hlocks hw dX0_guestNumber_163
  replace hf := iteF hf hc9
  have nhc0 := ne_toInt hc0 (k := 0) (by decide)
  have nhc1 := ne_toInt hc1 (k := 1) (by decide)
  have nhc2 := ne_toInt hc2 (k := 2) (by decide)
  have nhc3 := ne_toInt hc3 (k := 3) (by decide)
  have nhc4 := ne_toInt hc4 (k := 4) (by decide)
  have nhc5 := ne_toInt hc5 (k := 5) (by decide)
  have nhc6 := ne_toInt hc6 (k := 6) (by decide)
  have nhc7 := ne_toInt hc7 (k := 7) (by decide)
  have nhc8 := ne_toInt hc8 (k := 8) (by decide)
  have nhc9 := ne_toInt hc9 (k := 9) (by decide)
  refine lv_tableOut (tgt := 164) hx hb dX0_guestNumber_1 (by omega) (by decide) ?_
  refine lv_aload_n hx hb dX0_guestNumber_164 rfl (lv_at hl 0 rfl) ?_
  refine q_get hx hb hts hiX0 hown hw 1 xa_1 rfl 0 (by decide) (hts (.fieldLink RX0 12 "LaceRanks$Carnival" "guests" "LLaceRanks$Guests;") (by decide +kernel)) rfl dX0_guestNumber_165 ?_
  refine q_getN hx hb hts hiX1 hown hw 2 xa_2 rfl 5 (by decide) (nw_X0_201 hw.2.2.2.2) rfl dX0_guestNumber_168 ?_
  refine lv_iload_n hx hb dX0_guestNumber_171 rfl (lv_at hl 1 rfl) ?_
  obtain ⟨r11, hr11, hf⟩ := nmE hf
  refine q_callSN (rest := []) (st1 := [.int r11]) [.ref (ad 8), .int a1] ⟨hx, hb, hml, hown, hts⟩ (c_X5_at (q0 := 8) xa_8 hr11) ⟨va_cnB 2 hts gX0_guestNumber_X5_at_n67 rfl rfl rfl (nw_X0_67 hw.2.2.2.2) (hts (.initialized RX5) (by decide +kernel)) (by decide +kernel) ⟨Nat.le_of_ble_eq_true rfl, Nat.le_of_ble_eq_true rfl⟩, (hts (.static yX5_at) (by decide +kernel)), trivial⟩ hw rfl hl.1 rfl (Nat.le_of_ble_eq_true rfl) dX0_guestNumber_172 ⟨Nat.zero_le _, Nat.zero_le _⟩ rfl (fun H locs hw => ?_)
  cases hf
  exact q_iret hx hb hr hlocks hw dX0_guestNumber_175

def f_X0_countNumber (K : RK)  (a1 : Int32) : Option Int32 := (if a1 = 0 then some (K 11 0) else (if a1 = 1 then some (K 12 0) else (if a1 = 2 then bnd (f_X5_sumOf 10 (K 7) (K 12 0)) (fun r1 => some r1) else (if a1 = 3 then bnd (f_X5_sumOf 3 (K 9) 3) (fun r2 => some r2) else (if a1 = 4 then bnd (f_X5_sumOf 10 (K 1) (K 12 0)) (fun r3 => some r3) else (if a1 = 5 then some (K 11 1) else (if a1 = 6 then bnd (f_X5_sumOf 10 (K 2) (K 12 0)) (fun r4 => some r4) else (if a1 = 7 then some (K 11 3) else (if a1 = 8 then bnd (f_X5_sumOf 10 (K 3) (K 12 0)) (fun r5 => some r5) else (if a1 = 9 then some (K 11 2) else (if a1 = 10 then some (K 11 4) else (if a1 = 11 then some (K 11 5) else (if a1 = 12 then some (K 11 6) else (if a1 = 13 then bnd (f_X1_howManyMasked K) (fun r6 => some r6) else (if a1 = 14 then bnd (f_X1_bitsOfInside K) (fun r7 => some r7) else (nm (at_ 6 (K 10) (a1 - 15)) (fun r8 => some r8)))))))))))))))))
set_option maxHeartbeats 4000000 in
set_option maxRecDepth 100000 in
theorem c_X0_countNumber {l : Launch} {D : va_G} {cI cR : ClassId} {ad : Nat → Nat} {A : Nat → Prop} {O : XO} {K : RK}  {a1 : Int32} {r : Int32}  (hf : f_X0_countNumber K a1 = some r) : MC l yX0_countNumber wsX0_countNumber 3 64 D cI cR A [.ref (ad 1), .int a1] (xws cI cR ad O K) (some (.int r)) (xws cI cR ad O K) := by
  refine Met.ofW (cc := cX0_countNumber) (maxL := 2) (ret := (some .int)) (by decide) rfl ?_
  intro p e s m args below meth c s₁ B hml hv
  obtain ⟨rfl, hw⟩ := q_start hv
  have hx := B.exec
  have hb := B.bytes
  have hr := B.returns
  have hts := atoms_spec (ws := wsX0_countNumber) B.pre
  have hown : s.vm.findClass RX0 = some m.cls := findClass_of_methodNamed B.named
  have hlocks := B.notSynchronized
  have hiX0 : ∀ w ∈ wsX00, w ∈ wsX0_countNumber := by decide +kernel
  have hiX1 : ∀ w ∈ wsX10, w ∈ wsX0_countNumber := by decide +kernel
  have hiX3 : ∀ w ∈ wsX30, w ∈ wsX0_countNumber := by decide +kernel
  have hl := lv_entry ([.ref (ad 1), .int a1]) (n := 2) (Nat.le_of_ble_eq_true rfl)
  rw [lg_entry_eq]
  generalize (lg_sl ([.ref (ad 1), .int a1]) ++ List.replicate (2 - (lg_sl ([.ref (ad 1), .int a1])).length) Slot.unset).toArray = ls at hl ⊢
  have hl : lv_has ls 2 [(0, .ref (ad 1)), (1, .int a1)] := hl
  unfold f_X0_countNumber at hf
  obtain ⟨H, eH⟩ : ∃ H, H = s.heap := ⟨_, rfl⟩
  obtain ⟨locs, eL⟩ : ∃ L : List Loc, L = [] := ⟨_, rfl⟩
  rw [← eH, ← eL] at hw ⊢
  clear eH eL
  refine lv_iload_n hx hb dX0_countNumber_0 rfl (lv_at hl 1 rfl) ?_
  by_cases hc0 : a1 = 0
  · have hf := iteT hf hc0
    refine lv_tableIn (tgt := 76) hx hb dX0_countNumber_1 (by rw [hc0]; decide) (by rw [hc0]; decide) (by rw [hc0]; rfl) (by decide) ?_
    refine lv_aload_n hx hb dX0_countNumber_76 rfl (lv_at hl 0 rfl) ?_
    refine q_get hx hb hts hiX0 hown hw 1 xa_1 rfl 3 (by decide) (hts (.fieldLink RX0 115 "LaceRanks$Carnival" "nightNumber" "I") (by decide +kernel)) rfl dX0_countNumber_77 ?_
    cases hf
    exact q_iret hx hb hr hlocks hw dX0_countNumber_80
  replace hf := iteF hf hc0
  by_cases hc1 : a1 = 1
  · have hf := iteT hf hc1
    refine lv_tableIn (tgt := 81) hx hb dX0_countNumber_1 (by rw [hc1]; decide) (by rw [hc1]; decide) (by rw [hc1]; rfl) (by decide) ?_
    refine lv_aload_n hx hb dX0_countNumber_81 rfl (lv_at hl 0 rfl) ?_
    refine q_get hx hb hts hiX0 hown hw 1 xa_1 rfl 0 (by decide) (hts (.fieldLink RX0 12 "LaceRanks$Carnival" "guests" "LLaceRanks$Guests;") (by decide +kernel)) rfl dX0_countNumber_82 ?_
    refine q_getN hx hb hts hiX1 hown hw 2 xa_2 rfl 8 (by decide) (nw_X0_158 hw.2.2.2.2) rfl dX0_countNumber_85 ?_
    cases hf
    exact q_iret hx hb hr hlocks hw dX0_countNumber_88
  replace hf := iteF hf hc1
  by_cases hc2 : a1 = 2
  · have hf := iteT hf hc2
    refine lv_tableIn (tgt := 89) hx hb dX0_countNumber_1 (by rw [hc2]; decide) (by rw [hc2]; decide) (by rw [hc2]; rfl) (by decide) ?_
    refine lv_aload_n hx hb dX0_countNumber_89 rfl (lv_at hl 0 rfl) ?_
    refine q_get hx hb hts hiX0 hown hw 1 xa_1 rfl 0 (by decide) (hts (.fieldLink RX0 12 "LaceRanks$Carnival" "guests" "LLaceRanks$Guests;") (by decide +kernel)) rfl dX0_countNumber_90 ?_
    refine q_getN hx hb hts hiX1 hown hw 2 xa_2 rfl 7 (by decide) (nw_X0_146 hw.2.2.2.2) rfl dX0_countNumber_93 ?_
    refine lv_aload_n hx hb dX0_countNumber_96 rfl (lv_at hl 0 rfl) ?_
    refine q_get hx hb hts hiX0 hown hw 1 xa_1 rfl 0 (by decide) (hts (.fieldLink RX0 12 "LaceRanks$Carnival" "guests" "LLaceRanks$Guests;") (by decide +kernel)) rfl dX0_countNumber_97 ?_
    refine q_getN hx hb hts hiX1 hown hw 2 xa_2 rfl 8 (by decide) (nw_X0_158 hw.2.2.2.2) rfl dX0_countNumber_100 ?_
    obtain ⟨r1, hr1, hf⟩ := bndS hf
    refine q_callSN (rest := []) (st1 := [.int r1]) [.ref (ad 10), .int (K 12 0)] ⟨hx, hb, hml, hown, hts⟩ (c_X5_sumOf (q0 := 10) xa_10 (by decide) hr1) ⟨va_cnB 2 hts gX0_countNumber_X5_sumOf_n161 rfl rfl rfl (nw_X0_161 hw.2.2.2.2) (hts (.initialized RX5) (by decide +kernel)) (by decide +kernel) ⟨Nat.le_of_ble_eq_true rfl, Nat.le_of_ble_eq_true rfl⟩, (hts (.static yX5_sumOf) (by decide +kernel)), trivial⟩ hw rfl hl.1 rfl (Nat.le_of_ble_eq_true rfl) dX0_countNumber_103 ⟨Nat.zero_le _, Nat.zero_le _⟩ rfl (fun H locs hw => ?_)
    cases hf
    exact q_iret hx hb hr hlocks hw dX0_countNumber_106
  replace hf := iteF hf hc2
  by_cases hc3 : a1 = 3
  · have hf := iteT hf hc3
    refine lv_tableIn (tgt := 107) hx hb dX0_countNumber_1 (by rw [hc3]; decide) (by rw [hc3]; decide) (by rw [hc3]; rfl) (by decide) ?_
    refine lv_aload_n hx hb dX0_countNumber_107 rfl (lv_at hl 0 rfl) ?_
    refine q_get hx hb hts hiX0 hown hw 1 xa_1 rfl 1 (by decide) (hts (.fieldLink RX0 21 "LaceRanks$Carnival" "lines" "LLaceRanks$Lines;") (by decide +kernel)) rfl dX0_countNumber_108 ?_
    refine q_getN hx hb hts hiX3 hown hw 11 xa_11 rfl 1 (by decide) (nw_X0_191 hw.2.2.2.2) rfl dX0_countNumber_111 ?_
    refine lv_iconst (v := 3) hx hb dX0_countNumber_114 (by decide) ?_
    obtain ⟨r2, hr2, hf⟩ := bndS hf
    refine q_callSN (rest := []) (st1 := [.int r2]) [.ref (ad 13), .int 3] ⟨hx, hb, hml, hown, hts⟩ (c_X5_sumOf (q0 := 13) xa_13 (by decide) hr2) ⟨va_cnB 2 hts gX0_countNumber_X5_sumOf_n161 rfl rfl rfl (nw_X0_161 hw.2.2.2.2) (hts (.initialized RX5) (by decide +kernel)) (by decide +kernel) ⟨Nat.le_of_ble_eq_true rfl, Nat.le_of_ble_eq_true rfl⟩, (hts (.static yX5_sumOf) (by decide +kernel)), trivial⟩ hw rfl hl.1 rfl (Nat.le_of_ble_eq_true rfl) dX0_countNumber_115 ⟨Nat.zero_le _, Nat.zero_le _⟩ rfl (fun H locs hw => ?_)
    cases hf
    exact q_iret hx hb hr hlocks hw dX0_countNumber_118
  replace hf := iteF hf hc3
  by_cases hc4 : a1 = 4
  · have hf := iteT hf hc4
    refine lv_tableIn (tgt := 119) hx hb dX0_countNumber_1 (by rw [hc4]; decide) (by rw [hc4]; decide) (by rw [hc4]; rfl) (by decide) ?_
    refine lv_aload_n hx hb dX0_countNumber_119 rfl (lv_at hl 0 rfl) ?_
    refine q_get hx hb hts hiX0 hown hw 1 xa_1 rfl 0 (by decide) (hts (.fieldLink RX0 12 "LaceRanks$Carnival" "guests" "LLaceRanks$Guests;") (by decide +kernel)) rfl dX0_countNumber_120 ?_
    refine q_getN hx hb hts hiX1 hown hw 2 xa_2 rfl 1 (by decide) (nw_X0_71 hw.2.2.2.2) rfl dX0_countNumber_123 ?_
    refine lv_aload_n hx hb dX0_countNumber_126 rfl (lv_at hl 0 rfl) ?_
    refine q_get hx hb hts hiX0 hown hw 1 xa_1 rfl 0 (by decide) (hts (.fieldLink RX0 12 "LaceRanks$Carnival" "guests" "LLaceRanks$Guests;") (by decide +kernel)) rfl dX0_countNumber_127 ?_
    refine q_getN hx hb hts hiX1 hown hw 2 xa_2 rfl 8 (by decide) (nw_X0_158 hw.2.2.2.2) rfl dX0_countNumber_130 ?_
    obtain ⟨r3, hr3, hf⟩ := bndS hf
    refine q_callSN (rest := []) (st1 := [.int r3]) [.ref (ad 4), .int (K 12 0)] ⟨hx, hb, hml, hown, hts⟩ (c_X5_sumOf (q0 := 4) xa_4 (by decide) hr3) ⟨va_cnB 2 hts gX0_countNumber_X5_sumOf_n161 rfl rfl rfl (nw_X0_161 hw.2.2.2.2) (hts (.initialized RX5) (by decide +kernel)) (by decide +kernel) ⟨Nat.le_of_ble_eq_true rfl, Nat.le_of_ble_eq_true rfl⟩, (hts (.static yX5_sumOf) (by decide +kernel)), trivial⟩ hw rfl hl.1 rfl (Nat.le_of_ble_eq_true rfl) dX0_countNumber_133 ⟨Nat.zero_le _, Nat.zero_le _⟩ rfl (fun H locs hw => ?_)
    cases hf
    exact q_iret hx hb hr hlocks hw dX0_countNumber_136
  replace hf := iteF hf hc4
  by_cases hc5 : a1 = 5
  · have hf := iteT hf hc5
    refine lv_tableIn (tgt := 137) hx hb dX0_countNumber_1 (by rw [hc5]; decide) (by rw [hc5]; decide) (by rw [hc5]; rfl) (by decide) ?_
    refine lv_aload_n hx hb dX0_countNumber_137 rfl (lv_at hl 0 rfl) ?_
    refine q_get hx hb hts hiX0 hown hw 1 xa_1 rfl 4 (by decide) (hts (.fieldLink RX0 97 "LaceRanks$Carnival" "chest" "I") (by decide +kernel)) rfl dX0_countNumber_138 ?_
    cases hf
    exact q_iret hx hb hr hlocks hw dX0_countNumber_141
  replace hf := iteF hf hc5
  by_cases hc6 : a1 = 6
  · have hf := iteT hf hc6
    refine lv_tableIn (tgt := 142) hx hb dX0_countNumber_1 (by rw [hc6]; decide) (by rw [hc6]; decide) (by rw [hc6]; rfl) (by decide) ?_
    refine lv_aload_n hx hb dX0_countNumber_142 rfl (lv_at hl 0 rfl) ?_
    refine q_get hx hb hts hiX0 hown hw 1 xa_1 rfl 0 (by decide) (hts (.fieldLink RX0 12 "LaceRanks$Carnival" "guests" "LLaceRanks$Guests;") (by decide +kernel)) rfl dX0_countNumber_143 ?_
    refine q_getN hx hb hts hiX1 hown hw 2 xa_2 rfl 2 (by decide) (nw_X0_64 hw.2.2.2.2) rfl dX0_countNumber_146 ?_
    refine lv_aload_n hx hb dX0_countNumber_149 rfl (lv_at hl 0 rfl) ?_
    refine q_get hx hb hts hiX0 hown hw 1 xa_1 rfl 0 (by decide) (hts (.fieldLink RX0 12 "LaceRanks$Carnival" "guests" "LLaceRanks$Guests;") (by decide +kernel)) rfl dX0_countNumber_150 ?_
    refine q_getN hx hb hts hiX1 hown hw 2 xa_2 rfl 8 (by decide) (nw_X0_158 hw.2.2.2.2) rfl dX0_countNumber_153 ?_
    obtain ⟨r4, hr4, hf⟩ := bndS hf
    refine q_callSN (rest := []) (st1 := [.int r4]) [.ref (ad 5), .int (K 12 0)] ⟨hx, hb, hml, hown, hts⟩ (c_X5_sumOf (q0 := 5) xa_5 (by decide) hr4) ⟨va_cnB 2 hts gX0_countNumber_X5_sumOf_n161 rfl rfl rfl (nw_X0_161 hw.2.2.2.2) (hts (.initialized RX5) (by decide +kernel)) (by decide +kernel) ⟨Nat.le_of_ble_eq_true rfl, Nat.le_of_ble_eq_true rfl⟩, (hts (.static yX5_sumOf) (by decide +kernel)), trivial⟩ hw rfl hl.1 rfl (Nat.le_of_ble_eq_true rfl) dX0_countNumber_156 ⟨Nat.zero_le _, Nat.zero_le _⟩ rfl (fun H locs hw => ?_)
    cases hf
    exact q_iret hx hb hr hlocks hw dX0_countNumber_159
  replace hf := iteF hf hc6
  by_cases hc7 : a1 = 7
  · have hf := iteT hf hc7
    refine lv_tableIn (tgt := 160) hx hb dX0_countNumber_1 (by rw [hc7]; decide) (by rw [hc7]; decide) (by rw [hc7]; rfl) (by decide) ?_
    refine lv_aload_n hx hb dX0_countNumber_160 rfl (lv_at hl 0 rfl) ?_
    refine q_get hx hb hts hiX0 hown hw 1 xa_1 rfl 6 (by decide) (hts (.fieldLink RX0 43 "LaceRanks$Carnival" "ribbonsTold" "I") (by decide +kernel)) rfl dX0_countNumber_161 ?_
    cases hf
    exact q_iret hx hb hr hlocks hw dX0_countNumber_164
  replace hf := iteF hf hc7
  by_cases hc8 : a1 = 8
  · have hf := iteT hf hc8
    refine lv_tableIn (tgt := 165) hx hb dX0_countNumber_1 (by rw [hc8]; decide) (by rw [hc8]; decide) (by rw [hc8]; rfl) (by decide) ?_
    refine lv_aload_n hx hb dX0_countNumber_165 rfl (lv_at hl 0 rfl) ?_
    refine q_get hx hb hts hiX0 hown hw 1 xa_1 rfl 0 (by decide) (hts (.fieldLink RX0 12 "LaceRanks$Carnival" "guests" "LLaceRanks$Guests;") (by decide +kernel)) rfl dX0_countNumber_166 ?_
    refine q_getN hx hb hts hiX1 hown hw 2 xa_2 rfl 3 (by decide) (nw_X0_74 hw.2.2.2.2) rfl dX0_countNumber_169 ?_
    refine lv_aload_n hx hb dX0_countNumber_172 rfl (lv_at hl 0 rfl) ?_
    refine q_get hx hb hts hiX0 hown hw 1 xa_1 rfl 0 (by decide) (hts (.fieldLink RX0 12 "LaceRanks$Carnival" "guests" "LLaceRanks$Guests;") (by decide +kernel)) rfl dX0_countNumber_173 ?_
    refine q_getN hx hb hts hiX1 hown hw 2 xa_2 rfl 8 (by decide) (nw_X0_158 hw.2.2.2.2) rfl dX0_countNumber_176 ?_
    obtain ⟨r5, hr5, hf⟩ := bndS hf
    refine q_callSN (rest := []) (st1 := [.int r5]) [.ref (ad 6), .int (K 12 0)] ⟨hx, hb, hml, hown, hts⟩ (c_X5_sumOf (q0 := 6) xa_6 (by decide) hr5) ⟨va_cnB 2 hts gX0_countNumber_X5_sumOf_n161 rfl rfl rfl (nw_X0_161 hw.2.2.2.2) (hts (.initialized RX5) (by decide +kernel)) (by decide +kernel) ⟨Nat.le_of_ble_eq_true rfl, Nat.le_of_ble_eq_true rfl⟩, (hts (.static yX5_sumOf) (by decide +kernel)), trivial⟩ hw rfl hl.1 rfl (Nat.le_of_ble_eq_true rfl) dX0_countNumber_179 ⟨Nat.zero_le _, Nat.zero_le _⟩ rfl (fun H locs hw => ?_)
    cases hf
    exact q_iret hx hb hr hlocks hw dX0_countNumber_182
  replace hf := iteF hf hc8
  by_cases hc9 : a1 = 9
  · have hf := iteT hf hc9
    refine lv_tableIn (tgt := 183) hx hb dX0_countNumber_1 (by rw [hc9]; decide) (by rw [hc9]; decide) (by rw [hc9]; rfl) (by decide) ?_
    refine lv_aload_n hx hb dX0_countNumber_183 rfl (lv_at hl 0 rfl) ?_
    refine q_get hx hb hts hiX0 hown hw 1 xa_1 rfl 5 (by decide) (hts (.fieldLink RX0 149 "LaceRanks$Carnival" "laceChest" "I") (by decide +kernel)) rfl dX0_countNumber_184 ?_
    cases hf
    exact q_iret hx hb hr hlocks hw dX0_countNumber_187
  replace hf := iteF hf hc9
  by_cases hc10 : a1 = 10
  · have hf := iteT hf hc10
    refine lv_tableIn (tgt := 188) hx hb dX0_countNumber_1 (by rw [hc10]; decide) (by rw [hc10]; decide) (by rw [hc10]; rfl) (by decide) ?_
    refine lv_aload_n hx hb dX0_countNumber_188 rfl (lv_at hl 0 rfl) ?_
    refine q_get hx hb hts hiX0 hown hw 1 xa_1 rfl 7 (by decide) (hts (.fieldLink RX0 46 "LaceRanks$Carnival" "laceTold" "I") (by decide +kernel)) rfl dX0_countNumber_189 ?_
    cases hf
    exact q_iret hx hb hr hlocks hw dX0_countNumber_192
  replace hf := iteF hf hc10
  by_cases hc11 : a1 = 11
  · have hf := iteT hf hc11
    refine lv_tableIn (tgt := 193) hx hb dX0_countNumber_1 (by rw [hc11]; decide) (by rw [hc11]; decide) (by rw [hc11]; rfl) (by decide) ?_
    refine lv_aload_n hx hb dX0_countNumber_193 rfl (lv_at hl 0 rfl) ?_
    refine q_get hx hb hts hiX0 hown hw 1 xa_1 rfl 8 (by decide) (hts (.fieldLink RX0 155 "LaceRanks$Carnival" "fined" "I") (by decide +kernel)) rfl dX0_countNumber_194 ?_
    cases hf
    exact q_iret hx hb hr hlocks hw dX0_countNumber_197
  replace hf := iteF hf hc11
  by_cases hc12 : a1 = 12
  · have hf := iteT hf hc12
    refine lv_tableIn (tgt := 198) hx hb dX0_countNumber_1 (by rw [hc12]; decide) (by rw [hc12]; decide) (by rw [hc12]; rfl) (by decide) ?_
    refine lv_aload_n hx hb dX0_countNumber_198 rfl (lv_at hl 0 rfl) ?_
    refine q_get hx hb hts hiX0 hown hw 1 xa_1 rfl 9 (by decide) (hts (.fieldLink RX0 152 "LaceRanks$Carnival" "ellsCut" "I") (by decide +kernel)) rfl dX0_countNumber_199 ?_
    cases hf
    exact q_iret hx hb hr hlocks hw dX0_countNumber_202
  replace hf := iteF hf hc12
  by_cases hc13 : a1 = 13
  · have hf := iteT hf hc13
    refine lv_tableIn (tgt := 203) hx hb dX0_countNumber_1 (by rw [hc13]; decide) (by rw [hc13]; decide) (by rw [hc13]; rfl) (by decide) ?_
    refine lv_aload_n hx hb dX0_countNumber_203 rfl (lv_at hl 0 rfl) ?_
    refine q_get hx hb hts hiX0 hown hw 1 xa_1 rfl 0 (by decide) (hts (.fieldLink RX0 12 "LaceRanks$Carnival" "guests" "LLaceRanks$Guests;") (by decide +kernel)) rfl dX0_countNumber_204 ?_
    obtain ⟨r6, hr6, hf⟩ := bndS hf
    refine q_callVN (rest := []) (st1 := [.int r6]) [] ⟨hx, hb, hml, hown, hts⟩ (c_X1_howManyMasked hr6) ⟨va_cnB 0 hts gX0_countNumber_X1_howManyMasked_n204 rfl rfl rfl (nw_X0_204 hw.2.2.2.2) (hts (.initialized RX1) (by decide +kernel)) (by decide +kernel) ⟨Nat.le_of_ble_eq_true rfl, Nat.le_of_ble_eq_true rfl⟩, (hts (.instanceMethod yX1_howManyMasked) (by decide +kernel)), (hts (.selects RX1 yX1_howManyMasked yX1_howManyMasked) (by decide +kernel))⟩ hw xa_2 rfl rfl hl.1 rfl (Nat.le_of_ble_eq_true rfl) dX0_countNumber_207 ⟨Nat.zero_le _, Nat.zero_le _⟩ rfl (fun H locs hw => ?_)
    cases hf
    exact q_iret hx hb hr hlocks hw dX0_countNumber_210
  replace hf := iteF hf hc13
  by_cases hc14 : a1 = 14
  · have hf := iteT hf hc14
    refine lv_tableIn (tgt := 211) hx hb dX0_countNumber_1 (by rw [hc14]; decide) (by rw [hc14]; decide) (by rw [hc14]; rfl) (by decide) ?_
    refine lv_aload_n hx hb dX0_countNumber_211 rfl (lv_at hl 0 rfl) ?_
    refine q_get hx hb hts hiX0 hown hw 1 xa_1 rfl 0 (by decide) (hts (.fieldLink RX0 12 "LaceRanks$Carnival" "guests" "LLaceRanks$Guests;") (by decide +kernel)) rfl dX0_countNumber_212 ?_
    obtain ⟨r7, hr7, hf⟩ := bndS hf
    refine q_callVN (rest := []) (st1 := [.int r7]) [] ⟨hx, hb, hml, hown, hts⟩ (c_X1_bitsOfInside hr7) ⟨va_cnB 0 hts gX0_countNumber_X1_bitsOfInside_n208 rfl rfl rfl (nw_X0_208 hw.2.2.2.2) (hts (.initialized RX1) (by decide +kernel)) (by decide +kernel) ⟨Nat.le_of_ble_eq_true rfl, Nat.le_of_ble_eq_true rfl⟩, (hts (.instanceMethod yX1_bitsOfInside) (by decide +kernel)), (hts (.selects RX1 yX1_bitsOfInside yX1_bitsOfInside) (by decide +kernel))⟩ hw xa_2 rfl rfl hl.1 rfl (Nat.le_of_ble_eq_true rfl) dX0_countNumber_215 ⟨Nat.zero_le _, Nat.zero_le _⟩ rfl (fun H locs hw => ?_)
    cases hf
    exact q_iret hx hb hr hlocks hw dX0_countNumber_218
  replace hf := iteF hf hc14
  have nhc0 := ne_toInt hc0 (k := 0) (by decide)
  have nhc1 := ne_toInt hc1 (k := 1) (by decide)
  have nhc2 := ne_toInt hc2 (k := 2) (by decide)
  have nhc3 := ne_toInt hc3 (k := 3) (by decide)
  have nhc4 := ne_toInt hc4 (k := 4) (by decide)
  have nhc5 := ne_toInt hc5 (k := 5) (by decide)
  have nhc6 := ne_toInt hc6 (k := 6) (by decide)
  have nhc7 := ne_toInt hc7 (k := 7) (by decide)
  have nhc8 := ne_toInt hc8 (k := 8) (by decide)
  have nhc9 := ne_toInt hc9 (k := 9) (by decide)
  have nhc10 := ne_toInt hc10 (k := 10) (by decide)
  have nhc11 := ne_toInt hc11 (k := 11) (by decide)
  have nhc12 := ne_toInt hc12 (k := 12) (by decide)
  have nhc13 := ne_toInt hc13 (k := 13) (by decide)
  have nhc14 := ne_toInt hc14 (k := 14) (by decide)
  refine lv_tableOut (tgt := 219) hx hb dX0_countNumber_1 (by omega) (by decide) ?_
  refine lv_aload_n hx hb dX0_countNumber_219 rfl (lv_at hl 0 rfl) ?_
  refine q_get hx hb hts hiX0 hown hw 1 xa_1 rfl 2 (by decide) (hts (.fieldLink RX0 25 "LaceRanks$Carnival" "settings" "[I") (by decide +kernel)) rfl dX0_countNumber_220 ?_
  refine lv_iload_n hx hb dX0_countNumber_223 rfl (lv_at hl 1 rfl) ?_
  refine lv_bipush (v := 15) hx hb dX0_countNumber_224 (by decide) ?_
  refine lv_isub hx hb dX0_countNumber_226 ?_
  obtain ⟨r8, hr8, hf⟩ := nmE hf
  refine q_callSN (rest := []) (st1 := [.int r8]) [.ref (ad 14), .int (a1 - 15)] ⟨hx, hb, hml, hown, hts⟩ (c_X5_at (q0 := 14) xa_14 hr8) ⟨va_cnB 2 hts gX0_countNumber_X5_at_n67 rfl rfl rfl (nw_X0_67 hw.2.2.2.2) (hts (.initialized RX5) (by decide +kernel)) (by decide +kernel) ⟨Nat.le_of_ble_eq_true rfl, Nat.le_of_ble_eq_true rfl⟩, (hts (.static yX5_at) (by decide +kernel)), trivial⟩ hw rfl hl.1 rfl (Nat.le_of_ble_eq_true rfl) dX0_countNumber_227 ⟨Nat.zero_le _, Nat.zero_le _⟩ rfl (fun H locs hw => ?_)
  cases hf
  exact q_iret hx hb hr hlocks hw dX0_countNumber_230
