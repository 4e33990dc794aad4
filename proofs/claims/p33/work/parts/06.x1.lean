def f_X1_has (K : RK)  (a1 : Int32) : Option Int32 := (if a1 < 0 then some 0 else (if (K 12 0) ≤ a1 then some 0 else some 1))
set_option maxHeartbeats 4000000 in
set_option maxRecDepth 100000 in
theorem c_X1_has {l : Launch} {D : va_G} {cI cR : ClassId} {ad : Nat → Nat} {A : Nat → Prop} {O : XO} {K : RK}  {a1 : Int32} {r : Int32}  (hf : f_X1_has K a1 = some r) : MC l yX1_has wsX1_has 0 0 D cI cR A [.ref (ad 2), .int a1] (xws cI cR ad O K) (some (.int r)) (xws cI cR ad O K) := by
  refine Met.ofW (cc := cX1_has) (maxL := 2) (ret := (some .boolean)) (by decide) rfl ?_
  intro p e s m args below meth c s₁ B hml hv
  obtain ⟨rfl, hw⟩ := q_start hv
  have hx := B.exec
  have hb := B.bytes
  have hr := B.returns
  have hts := atoms_spec (ws := wsX1_has) B.pre
  have hown : s.vm.findClass RX1 = some m.cls := findClass_of_methodNamed B.named
  have hlocks := B.notSynchronized
  have hiX1 : ∀ w ∈ wsX10, w ∈ wsX1_has := by decide +kernel
  have hl := lv_entry ([.ref (ad 2), .int a1]) (n := 2) (Nat.le_of_ble_eq_true rfl)
  rw [lg_entry_eq]
  generalize (lg_sl ([.ref (ad 2), .int a1]) ++ List.replicate (2 - (lg_sl ([.ref (ad 2), .int a1])).length) Slot.unset).toArray = ls at hl ⊢
  have hl : lv_has ls 2 [(0, .ref (ad 2)), (1, .int a1)] := hl
  unfold f_X1_has at hf
  obtain ⟨H, eH⟩ : ∃ H, H = s.heap := ⟨_, rfl⟩
  obtain ⟨locs, eL⟩ : ∃ L : List Loc, L = [] := ⟨_, rfl⟩
  rw [← eH, ← eL] at hw ⊢
  clear eH eL
  refine lv_iload_n hx hb dX1_has_0 rfl (lv_at hl 1 rfl) ?_
  refine lv_if_lt (tgt := 16) hx hb dX1_has_1 (by decide) (fun hc => ?_) (fun hc => ?_)
  · have hf := iteT hf hc
    refine lv_iconst (v := 0) hx hb dX1_has_16 (by decide) ?_
    cases hf
    exact q_zret hx hb hr nb_0 hlocks hw dX1_has_17
  · have hf := iteF hf hc
    refine lv_iload_n hx hb dX1_has_4 rfl (lv_at hl 1 rfl) ?_
    refine lv_aload_n hx hb dX1_has_5 rfl (lv_at hl 0 rfl) ?_
    refine q_get hx hb hts hiX1 hown hw 2 xa_2 rfl 8 (by decide) (hts (.fieldLink RX1 36 "LaceRanks$Guests" "size" "I") (by decide +kernel)) rfl dX1_has_6 ?_
    refine lv_icmp_ge (tgt := 16) hx hb dX1_has_9 (by decide) (fun hc => ?_) (fun hc => ?_)
    · have hf := iteT hf hc
      refine lv_iconst (v := 0) hx hb dX1_has_16 (by decide) ?_
      cases hf
      exact q_zret hx hb hr nb_0 hlocks hw dX1_has_17
    · have hf := iteF hf hc
      refine lv_iconst (v := 1) hx hb dX1_has_12 (by decide) ?_
      refine lv_goto (tgt := 17) hx hb dX1_has_13 (by decide) ?_
      cases hf
      exact q_zret hx hb hr nb_1 hlocks hw dX1_has_17

def f_X1_takeIn (K : RK)  (a1 : Int32) (a2 : Int32) (a3 : Int32) : Option (Int32 × RK) := nm (upR K 0 (put_ 10 (K 0) (K 12 0) a1)) (fun K1 => nm (upR K1 1 (put_ 10 (K1 1) (K 12 0) a3)) (fun K2 => nm (upR K2 2 (put_ 10 (K2 2) (K 12 0) 0)) (fun K3 => nm (upR K3 3 (put_ 10 (K3 3) (K 12 0) a2)) (fun K4 => nm (upR K4 4 (put_ 10 (K4 4) (K 12 0) (-1))) (fun K5 => nm (upR K5 5 (put_ 10 (K5 5) (K 12 0) (-1))) (fun K6 => nm (upR K6 6 (put_ 10 (K6 6) (K 12 0) 0)) (fun K7 => nm (upR K7 7 (put_ 10 (K7 7) (K 12 0) 0)) (fun K8 => nm (upS K8 12 0 ((K8 12 0) + 1)) (fun K9 => some (K 12 0, K9))))))))))
set_option maxHeartbeats 4000000 in
set_option maxRecDepth 100000 in
theorem c_X1_takeIn {l : Launch} {D : va_G} {cI cR : ClassId} {ad : Nat → Nat} {A : Nat → Prop} {O : XO} {K : RK} {K' : RK} {a1 : Int32} {a2 : Int32} {a3 : Int32} {r : Int32}  (hf : f_X1_takeIn K a1 a2 a3 = some (r, K')) : MC l yX1_takeIn wsX1_takeIn 1 22 D cI cR A [.ref (ad 2), .int a1, .int a2, .int a3] (xws cI cR ad O K) (some (.int r)) (xws cI cR ad O K') := by
  refine Met.ofW (cc := cX1_takeIn) (maxL := 5) (ret := (some .int)) (by decide) rfl ?_
  intro p e s m args below meth c s₁ B hml hv
  obtain ⟨rfl, hw⟩ := q_start hv
  have hx := B.exec
  have hb := B.bytes
  have hr := B.returns
  have hts := atoms_spec (ws := wsX1_takeIn) B.pre
  have hown : s.vm.findClass RX1 = some m.cls := findClass_of_methodNamed B.named
  have hlocks := B.notSynchronized
  have hiX1 : ∀ w ∈ wsX10, w ∈ wsX1_takeIn := by decide +kernel
  have hl := lv_entry ([.ref (ad 2), .int a1, .int a2, .int a3]) (n := 5) (Nat.le_of_ble_eq_true rfl)
  rw [lg_entry_eq]
  generalize (lg_sl ([.ref (ad 2), .int a1, .int a2, .int a3]) ++ List.replicate (5 - (lg_sl ([.ref (ad 2), .int a1, .int a2, .int a3])).length) Slot.unset).toArray = ls at hl ⊢
  have hl : lv_has ls 5 [(0, .ref (ad 2)), (1, .int a1), (2, .int a2), (3, .int a3)] := hl
  unfold f_X1_takeIn at hf
  obtain ⟨H, eH⟩ : ∃ H, H = s.heap := ⟨_, rfl⟩
  obtain ⟨locs, eL⟩ : ∃ L : List Loc, L = [] := ⟨_, rfl⟩
  rw [← eH, ← eL] at hw ⊢
  clear eH eL
  refine lv_aload_n hx hb dX1_takeIn_0 rfl (lv_at hl 0 rfl) ?_
  refine q_get hx hb hts hiX1 hown hw 2 xa_2 rfl 8 (by decide) (hts (.fieldLink RX1 36 "LaceRanks$Guests" "size" "I") (by decide +kernel)) rfl dX1_takeIn_1 ?_
  refine lv_istore (lv' := [(4, .int (K 12 0)), (0, .ref (ad 2)), (1, .int a1), (2, .int a2), (3, .int a3)]) hx hb dX1_takeIn_4 hl (by decide) rfl (fun ls hl => ?_)
  refine lv_aload_n hx hb dX1_takeIn_6 rfl (lv_at hl 1 rfl) ?_
  refine q_get hx hb hts hiX1 hown hw 2 xa_2 rfl 0 (by decide) (hts (.fieldLink RX1 9 "LaceRanks$Guests" "rank" "[I") (by decide +kernel)) rfl dX1_takeIn_7 ?_
  refine lv_iload hx hb dX1_takeIn_10 (lv_at hl 0 rfl) ?_
  refine lv_iload_n hx hb dX1_takeIn_12 rfl (lv_at hl 2 rfl) ?_
  obtain ⟨K1, hK1, hf⟩ := nmE hf
  refine q_callSN (rest := []) (st1 := []) [.ref (ad 3), .int (K 12 0), .int a1] ⟨hx, hb, hml, hown, hts⟩ (c_X5_put (q0 := 3) xa_3 (xs_3.trans (congrArg (fun z => (xws cI cR ad O z)) hK1.symm))) ⟨va_cnB 3 hts gX1_takeIn_X5_put_n40 rfl rfl rfl (nw_X1_40 hw.2.2.2.2) (hts (.initialized RX5) (by decide +kernel)) (by decide +kernel) ⟨Nat.le_of_ble_eq_true rfl, Nat.le_of_ble_eq_true rfl⟩, (hts (.static yX5_put) (by decide +kernel)), trivial⟩ hw rfl hl.1 rfl (Nat.le_of_ble_eq_true rfl) dX1_takeIn_13 ⟨Nat.zero_le _, Nat.zero_le _⟩ rfl (fun H locs hw => ?_)
  refine lv_aload_n hx hb dX1_takeIn_16 rfl (lv_at hl 1 rfl) ?_
  refine q_get hx hb hts hiX1 hown hw 2 xa_2 rfl 1 (by decide) (hts (.fieldLink RX1 15 "LaceRanks$Guests" "purse" "[I") (by decide +kernel)) rfl dX1_takeIn_17 ?_
  refine lv_iload hx hb dX1_takeIn_20 (lv_at hl 0 rfl) ?_
  refine lv_iload_n hx hb dX1_takeIn_22 rfl (lv_at hl 4 rfl) ?_
  obtain ⟨K2, hK2, hf⟩ := nmE hf
  refine q_callSN (rest := []) (st1 := []) [.ref (ad 4), .int (K 12 0), .int a3] ⟨hx, hb, hml, hown, hts⟩ (c_X5_put (q0 := 4) xa_4 (xs_4.trans (congrArg (fun z => (xws cI cR ad O z)) hK2.symm))) ⟨va_cnB 3 hts gX1_takeIn_X5_put_n40 rfl rfl rfl (nw_X1_40 hw.2.2.2.2) (hts (.initialized RX5) (by decide +kernel)) (by decide +kernel) ⟨Nat.le_of_ble_eq_true rfl, Nat.le_of_ble_eq_true rfl⟩, (hts (.static yX5_put) (by decide +kernel)), trivial⟩ hw rfl hl.1 rfl (Nat.le_of_ble_eq_true rfl) dX1_takeIn_23 ⟨Nat.zero_le _, Nat.zero_le _⟩ rfl (fun H locs hw => ?_)
  refine lv_aload_n hx hb dX1_takeIn_26 rfl (lv_at hl 1 rfl) ?_
  refine q_get hx hb hts hiX1 hown hw 2 xa_2 rfl 2 (by decide) (hts (.fieldLink RX1 18 "LaceRanks$Guests" "debts" "[I") (by decide +kernel)) rfl dX1_takeIn_27 ?_
  refine lv_iload hx hb dX1_takeIn_30 (lv_at hl 0 rfl) ?_
  refine lv_iconst (v := 0) hx hb dX1_takeIn_32 (by decide) ?_
  obtain ⟨K3, hK3, hf⟩ := nmE hf
  refine q_callSN (rest := []) (st1 := []) [.ref (ad 5), .int (K 12 0), .int 0] ⟨hx, hb, hml, hown, hts⟩ (c_X5_put (q0 := 5) xa_5 (xs_5.trans (congrArg (fun z => (xws cI cR ad O z)) hK3.symm))) ⟨va_cnB 3 hts gX1_takeIn_X5_put_n40 rfl rfl rfl (nw_X1_40 hw.2.2.2.2) (hts (.initialized RX5) (by decide +kernel)) (by decide +kernel) ⟨Nat.le_of_ble_eq_true rfl, Nat.le_of_ble_eq_true rfl⟩, (hts (.static yX5_put) (by decide +kernel)), trivial⟩ hw rfl hl.1 rfl (Nat.le_of_ble_eq_true rfl) dX1_takeIn_33 ⟨Nat.zero_le _, Nat.zero_le _⟩ rfl (fun H locs hw => ?_)
  refine lv_aload_n hx hb dX1_takeIn_36 rfl (lv_at hl 1 rfl) ?_
  refine q_get hx hb hts hiX1 hown hw 2 xa_2 rfl 3 (by decide) (hts (.fieldLink RX1 21 "LaceRanks$Guests" "lace" "[I") (by decide +kernel)) rfl dX1_takeIn_37 ?_
  refine lv_iload hx hb dX1_takeIn_40 (lv_at hl 0 rfl) ?_
  refine lv_iload_n hx hb dX1_takeIn_42 rfl (lv_at hl 3 rfl) ?_
  obtain ⟨K4, hK4, hf⟩ := nmE hf
  refine q_callSN (rest := []) (st1 := []) [.ref (ad 6), .int (K 12 0), .int a2] ⟨hx, hb, hml, hown, hts⟩ (c_X5_put (q0 := 6) xa_6 (xs_6.trans (congrArg (fun z => (xws cI cR ad O z)) hK4.symm))) ⟨va_cnB 3 hts gX1_takeIn_X5_put_n40 rfl rfl rfl (nw_X1_40 hw.2.2.2.2) (hts (.initialized RX5) (by decide +kernel)) (by decide +kernel) ⟨Nat.le_of_ble_eq_true rfl, Nat.le_of_ble_eq_true rfl⟩, (hts (.static yX5_put) (by decide +kernel)), trivial⟩ hw rfl hl.1 rfl (Nat.le_of_ble_eq_true rfl) dX1_takeIn_43 ⟨Nat.zero_le _, Nat.zero_le _⟩ rfl (fun H locs hw => ?_)
  refine lv_aload_n hx hb dX1_takeIn_46 rfl (lv_at hl 1 rfl) ?_
  refine q_get hx hb hts hiX1 hown hw 2 xa_2 rfl 4 (by decide) (hts (.fieldLink RX1 24 "LaceRanks$Guests" "lender" "[I") (by decide +kernel)) rfl dX1_takeIn_47 ?_
  refine lv_iload hx hb dX1_takeIn_50 (lv_at hl 0 rfl) ?_
  refine lv_iconst (v := (-1)) hx hb dX1_takeIn_52 (by decide) ?_
  obtain ⟨K5, hK5, hf⟩ := nmE hf
  refine q_callSN (rest := []) (st1 := []) [.ref (ad 7), .int (K 12 0), .int (-1)] ⟨hx, hb, hml, hown, hts⟩ (c_X5_put (q0 := 7) xa_7 (xs_7.trans (congrArg (fun z => (xws cI cR ad O z)) hK5.symm))) ⟨va_cnB 3 hts gX1_takeIn_X5_put_n40 rfl rfl rfl (nw_X1_40 hw.2.2.2.2) (hts (.initialized RX5) (by decide +kernel)) (by decide +kernel) ⟨Nat.le_of_ble_eq_true rfl, Nat.le_of_ble_eq_true rfl⟩, (hts (.static yX5_put) (by decide +kernel)), trivial⟩ hw rfl hl.1 rfl (Nat.le_of_ble_eq_true rfl) dX1_takeIn_53 ⟨Nat.zero_le _, Nat.zero_le _⟩ rfl (fun H locs hw => ?_)
  refine lv_aload_n hx hb dX1_takeIn_56 rfl (lv_at hl 1 rfl) ?_
  refine q_get hx hb hts hiX1 hown hw 2 xa_2 rfl 5 (by decide) (hts (.fieldLink RX1 27 "LaceRanks$Guests" "borrower" "[I") (by decide +kernel)) rfl dX1_takeIn_57 ?_
  refine lv_iload hx hb dX1_takeIn_60 (lv_at hl 0 rfl) ?_
  refine lv_iconst (v := (-1)) hx hb dX1_takeIn_62 (by decide) ?_
  obtain ⟨K6, hK6, hf⟩ := nmE hf
  refine q_callSN (rest := []) (st1 := []) [.ref (ad 8), .int (K 12 0), .int (-1)] ⟨hx, hb, hml, hown, hts⟩ (c_X5_put (q0 := 8) xa_8 (xs_8.trans (congrArg (fun z => (xws cI cR ad O z)) hK6.symm))) ⟨va_cnB 3 hts gX1_takeIn_X5_put_n40 rfl rfl rfl (nw_X1_40 hw.2.2.2.2) (hts (.initialized RX5) (by decide +kernel)) (by decide +kernel) ⟨Nat.le_of_ble_eq_true rfl, Nat.le_of_ble_eq_true rfl⟩, (hts (.static yX5_put) (by decide +kernel)), trivial⟩ hw rfl hl.1 rfl (Nat.le_of_ble_eq_true rfl) dX1_takeIn_63 ⟨Nat.zero_le _, Nat.zero_le _⟩ rfl (fun H locs hw => ?_)
  refine lv_aload_n hx hb dX1_takeIn_66 rfl (lv_at hl 1 rfl) ?_
  refine q_get hx hb hts hiX1 hown hw 2 xa_2 rfl 6 (by decide) (hts (.fieldLink RX1 30 "LaceRanks$Guests" "maskNights" "[I") (by decide +kernel)) rfl dX1_takeIn_67 ?_
  refine lv_iload hx hb dX1_takeIn_70 (lv_at hl 0 rfl) ?_
  refine lv_iconst (v := 0) hx hb dX1_takeIn_72 (by decide) ?_
  obtain ⟨K7, hK7, hf⟩ := nmE hf
  refine q_callSN (rest := []) (st1 := []) [.ref (ad 9), .int (K 12 0), .int 0] ⟨hx, hb, hml, hown, hts⟩ (c_X5_put (q0 := 9) xa_9 (xs_9.trans (congrArg (fun z => (xws cI cR ad O z)) hK7.symm))) ⟨va_cnB 3 hts gX1_takeIn_X5_put_n40 rfl rfl rfl (nw_X1_40 hw.2.2.2.2) (hts (.initialized RX5) (by decide +kernel)) (by decide +kernel) ⟨Nat.le_of_ble_eq_true rfl, Nat.le_of_ble_eq_true rfl⟩, (hts (.static yX5_put) (by decide +kernel)), trivial⟩ hw rfl hl.1 rfl (Nat.le_of_ble_eq_true rfl) dX1_takeIn_73 ⟨Nat.zero_le _, Nat.zero_le _⟩ rfl (fun H locs hw => ?_)
  refine lv_aload_n hx hb dX1_takeIn_76 rfl (lv_at hl 1 rfl) ?_
  refine q_get hx hb hts hiX1 hown hw 2 xa_2 rfl 7 (by decide) (hts (.fieldLink RX1 33 "LaceRanks$Guests" "inside" "[I") (by decide +kernel)) rfl dX1_takeIn_77 ?_
  refine lv_iload hx hb dX1_takeIn_80 (lv_at hl 0 rfl) ?_
  refine lv_iconst (v := 0) hx hb dX1_takeIn_82 (by decide) ?_
  obtain ⟨K8, hK8, hf⟩ := nmE hf
  refine q_callSN (rest := []) (st1 := []) [.ref (ad 10), .int (K 12 0), .int 0] ⟨hx, hb, hml, hown, hts⟩ (c_X5_put (q0 := 10) xa_10 (xs_10.trans (congrArg (fun z => (xws cI cR ad O z)) hK8.symm))) ⟨va_cnB 3 hts gX1_takeIn_X5_put_n40 rfl rfl rfl (nw_X1_40 hw.2.2.2.2) (hts (.initialized RX5) (by decide +kernel)) (by decide +kernel) ⟨Nat.le_of_ble_eq_true rfl, Nat.le_of_ble_eq_true rfl⟩, (hts (.static yX5_put) (by decide +kernel)), trivial⟩ hw rfl hl.1 rfl (Nat.le_of_ble_eq_true rfl) dX1_takeIn_83 ⟨Nat.zero_le _, Nat.zero_le _⟩ rfl (fun H locs hw => ?_)
  refine lv_aload_n hx hb dX1_takeIn_86 rfl (lv_at hl 1 rfl) ?_
  refine lv_dup hx hb dX1_takeIn_87 rfl ?_
  refine q_get hx hb hts hiX1 hown hw 2 xa_2 rfl 8 (by decide) (hts (.fieldLink RX1 36 "LaceRanks$Guests" "size" "I") (by decide +kernel)) rfl dX1_takeIn_88 ?_
  refine lv_iconst (v := 1) hx hb dX1_takeIn_91 (by decide) ?_
  refine lv_iadd hx hb dX1_takeIn_92 ?_
  obtain ⟨K9, hK9, hf⟩ := nmE hf
  refine q_put (ty := .int) hx hb hts hiX1 tyX1 tyX1_ok nmX1 hown hw 2 xa_2 rfl 8 (by decide) (hts (.fieldLink RX1 36 "LaceRanks$Guests" "size" "I") (by decide +kernel)) rfl (by decide +kernel) rfl rfl (Nat.le_of_ble_eq_true rfl) dX1_takeIn_93 (xs_2_8.trans (congrArg (fun z => (xws cI cR ad O z)) hK9.symm)) (fun H locs hw => ?_)
  refine lv_iload hx hb dX1_takeIn_96 (lv_at hl 0 rfl) ?_
  cases hf
  exact q_iret hx hb hr hlocks hw dX1_takeIn_98

def f_X1_closeGap_l2   (rw : Nat) : Nat → RK → Int32 → Option RK
  | 0, _, _ => none
  | n2 + 1, K, x3 => (if (K 12 0) ≤ (x3 + 1) then some K else nm (at_ 10 (K rw) (x3 + 1)) (fun r1 => nm (upR K rw (put_ 10 (K rw) x3 r1)) (fun K2 => nm (x3 + 1) (fun v3 => (f_X1_closeGap_l2 rw n2) K2 v3))))
def f_X1_closeGap (K : RK) (rw : Nat) (a2 : Int32) : Option RK := f_X1_closeGap_l2 rw fuelN K a2
set_option maxHeartbeats 4000000 in
set_option maxRecDepth 100000 in
theorem c_X1_closeGap {l : Launch} {D : va_G} {cI cR : ClassId} {ad : Nat → Nat} {A : Nat → Prop} {O : XO} {K : RK} {K' : RK} {a2 : Int32}  {rw : Nat} (hrw : rw < 8) (hf : f_X1_closeGap K rw a2 = some K') : MC l yX1_closeGap wsX1_closeGap 1 22 D cI cR A [.ref (ad 2), .ref (ad (3 + rw)), .int a2] (xws cI cR ad O K) none (xws cI cR ad O K') := by
  refine Met.ofW (cc := cX1_closeGap) (maxL := 4) (ret := none) (by decide) rfl ?_
  intro p e s m args below meth c s₁ B hml hv
  obtain ⟨rfl, hw⟩ := q_start hv
  have hx := B.exec
  have hb := B.bytes
  have hr := B.returns
  have hts := atoms_spec (ws := wsX1_closeGap) B.pre
  have hown : s.vm.findClass RX1 = some m.cls := findClass_of_methodNamed B.named
  have hlocks := B.notSynchronized
  have hiX1 : ∀ w ∈ wsX10, w ∈ wsX1_closeGap := by decide +kernel
  have hl := lv_entry ([.ref (ad 2), .ref (ad (3 + rw)), .int a2]) (n := 4) (Nat.le_of_ble_eq_true rfl)
  rw [lg_entry_eq]
  generalize (lg_sl ([.ref (ad 2), .ref (ad (3 + rw)), .int a2]) ++ List.replicate (4 - (lg_sl ([.ref (ad 2), .ref (ad (3 + rw)), .int a2])).length) Slot.unset).toArray = ls at hl ⊢
  have hl : lv_has ls 4 [(0, .ref (ad 2)), (1, .ref (ad (3 + rw))), (2, .int a2)] := hl
  unfold f_X1_closeGap at hf
  obtain ⟨H, eH⟩ : ∃ H, H = s.heap := ⟨_, rfl⟩
  obtain ⟨locs, eL⟩ : ∃ L : List Loc, L = [] := ⟨_, rfl⟩
  rw [← eH, ← eL] at hw ⊢
  clear eH eL
  have L2 : ∀ (n2 : Nat) (K : RK) (x3 : Int32) (H : Heap) (locs : List Loc) (ls : Array Slot), f_X1_closeGap_l2 rw n2 K x3 = some K' → WH D cI cR A (xws cI cR ad O K) s H locs → lv_has ls 4 [(0, .ref (ad 2)), (1, .ref (ad (3 + rw))), (3, .int x3)] → W p l e (headSpec wsX1_closeGap ({ frames := 1, cells := 0, slots := 0, locals := 22 })).room s m ([.ref (ad 2), .ref (ad (3 + rw)), .int a2] : List Value).toArray below meth c H locs 0 0 (MQ below (QV none D A (xws cI cR ad O K')) (([.ref (ad 2), .ref (ad (3 + rw)), .int a2] : List Value)).toArray s 0 0 A) (F0 m 2 ls []) := by
    intro n2
    induction n2 with
    | zero => intro K x3 H locs ls hf; cases hf
    | succ n2 ih =>
      have ih2 := ih
      intro K x3 H locs ls hf hw hl
      simp only [f_X1_closeGap_l2] at hf
      refine lv_iload_n hx hb dX1_closeGap_2 rfl (lv_at hl 2 rfl) ?_
      refine lv_iconst (v := 1) hx hb dX1_closeGap_3 (by decide) ?_
      refine lv_iadd hx hb dX1_closeGap_4 ?_
      refine lv_aload_n hx hb dX1_closeGap_5 rfl (lv_at hl 0 rfl) ?_
      refine q_get hx hb hts hiX1 hown hw 2 xa_2 rfl 8 (by decide) (hts (.fieldLink RX1 36 "LaceRanks$Guests" "size" "I") (by decide +kernel)) rfl dX1_closeGap_6 ?_
      refine lv_icmp_ge (tgt := 30) hx hb dX1_closeGap_9 (by decide) (fun hc => ?_) (fun hc => ?_)
      · have hf := iteT hf hc
        cases hf
        exact q_vret hx hb hr hlocks hw dX1_closeGap_30
      · have hf := iteF hf hc
        refine lv_aload_n hx hb dX1_closeGap_12 rfl (lv_at hl 1 rfl) ?_
        refine lv_iload_n hx hb dX1_closeGap_13 rfl (lv_at hl 2 rfl) ?_
        refine lv_aload_n hx hb dX1_closeGap_14 rfl (lv_at hl 1 rfl) ?_
        refine lv_iload_n hx hb dX1_closeGap_15 rfl (lv_at hl 2 rfl) ?_
        refine lv_iconst (v := 1) hx hb dX1_closeGap_16 (by decide) ?_
        refine lv_iadd hx hb dX1_closeGap_17 ?_
        obtain ⟨r1, hr1, hf⟩ := nmE hf
        refine q_callSN (rest := [.int x3, .ref (ad (3 + rw))]) (st1 := [.int r1, .int x3, .ref (ad (3 + rw))]) [.ref (ad (3 + rw)), .int (x3 + 1)] ⟨hx, hb, hml, hown, hts⟩ (c_X5_at (q0 := (3 + rw)) (xa_row hrw) hr1) ⟨va_cnB 2 hts gX1_closeGap_X5_at_n48 rfl rfl rfl (nw_X1_48 hw.2.2.2.2) (hts (.initialized RX5) (by decide +kernel)) (by decide +kernel) ⟨Nat.le_of_ble_eq_true rfl, Nat.le_of_ble_eq_true rfl⟩, (hts (.static yX5_at) (by decide +kernel)), trivial⟩ hw rfl hl.1 rfl (Nat.le_of_ble_eq_true rfl) dX1_closeGap_18 ⟨Nat.zero_le _, Nat.zero_le _⟩ rfl (fun H locs hw => ?_)
        obtain ⟨K2, hK2, hf⟩ := nmE hf
        refine q_callSN (rest := []) (st1 := []) [.ref (ad (3 + rw)), .int x3, .int r1] ⟨hx, hb, hml, hown, hts⟩ (c_X5_put (q0 := (3 + rw)) (xa_row hrw) ((xs_row hrw).trans (congrArg (fun z => (xws cI cR ad O z)) hK2.symm))) ⟨va_cnB 3 hts gX1_closeGap_X5_put_n40 rfl rfl rfl (nw_X1_40 hw.2.2.2.2) (hts (.initialized RX5) (by decide +kernel)) (by decide +kernel) ⟨Nat.le_of_ble_eq_true rfl, Nat.le_of_ble_eq_true rfl⟩, (hts (.static yX5_put) (by decide +kernel)), trivial⟩ hw rfl hl.1 rfl (Nat.le_of_ble_eq_true rfl) dX1_closeGap_21 ⟨Nat.zero_le _, Nat.zero_le _⟩ rfl (fun H locs hw => ?_)
        obtain ⟨v3, hv3, hf⟩ := nmE hf
        refine lv_iinc (v := v3) (lv' := [(3, .int v3), (0, .ref (ad 2)), (1, .ref (ad (3 + rw)))]) hx hb dX1_closeGap_24 hl (k := 2) rfl (by rw [hv3]; rfl) (by decide) rfl (fun ls hl => ?_)
        refine lv_goto (tgt := 2) hx hb dX1_closeGap_27 (by decide) ?_
        exact ih2 K2 v3 H locs ls hf hw (lv_sub hl [1, 2, 0] rfl)
  refine lv_iload_n hx hb dX1_closeGap_0 rfl (lv_at hl 2 rfl) ?_
  refine lv_istore_n (lv' := [(3, .int a2), (0, .ref (ad 2)), (1, .ref (ad (3 + rw))), (2, .int a2)]) hx hb dX1_closeGap_1 rfl hl (by decide) rfl (fun ls hl => ?_)
  exact L2 fuelN K a2 H locs ls hf hw (lv_sub hl [1, 2, 0] rfl)

def f_X1_numberWithout   (a0 : Int32) (a1 : Int32) : Option Int32 := (if a1 ≤ a0 then some a1 else some (a1 - 1))
set_option maxHeartbeats 4000000 in
set_option maxRecDepth 100000 in
theorem c_X1_numberWithout {l : Launch} {D : va_G} {cI cR : ClassId} {A : Nat → Prop} {w : va_W}  {a0 : Int32} {a1 : Int32} {r : Int32}  (hf : f_X1_numberWithout a0 a1 = some r) : MC l yX1_numberWithout wsX1_numberWithout 0 0 D cI cR A [.int a0, .int a1] w (some (.int r)) w := by
  refine Met.ofW (cc := cX1_numberWithout) (maxL := 2) (ret := (some .int)) (by decide) rfl ?_
  intro p e s m args below meth c s₁ B hml hv
  obtain ⟨rfl, hw⟩ := q_start hv
  have hx := B.exec
  have hb := B.bytes
  have hr := B.returns
  have hts := atoms_spec (ws := wsX1_numberWithout) B.pre
  have hown : s.vm.findClass RX1 = some m.cls := findClass_of_methodNamed B.named
  have hlocks := B.notSynchronized
  have hl := lv_entry ([.int a0, .int a1]) (n := 2) (Nat.le_of_ble_eq_true rfl)
  rw [lg_entry_eq]
  generalize (lg_sl ([.int a0, .int a1]) ++ List.replicate (2 - (lg_sl ([.int a0, .int a1])).length) Slot.unset).toArray = ls at hl ⊢
  have hl : lv_has ls 2 [(0, .int a0), (1, .int a1)] := hl
  unfold f_X1_numberWithout at hf
  obtain ⟨H, eH⟩ : ∃ H, H = s.heap := ⟨_, rfl⟩
  obtain ⟨locs, eL⟩ : ∃ L : List Loc, L = [] := ⟨_, rfl⟩
  rw [← eH, ← eL] at hw ⊢
  clear eH eL
  refine lv_iload_n hx hb dX1_numberWithout_0 rfl (lv_at hl 1 rfl) ?_
  refine lv_iload_n hx hb dX1_numberWithout_1 rfl (lv_at hl 0 rfl) ?_
  refine lv_icmp_le (tgt := 11) hx hb dX1_numberWithout_2 (by decide) (fun hc => ?_) (fun hc => ?_)
  · have hf := iteT hf hc
    refine lv_iload_n hx hb dX1_numberWithout_11 rfl (lv_at hl 1 rfl) ?_
    cases hf
    exact q_iret hx hb hr hlocks hw dX1_numberWithout_12
  · have hf := iteF hf hc
    refine lv_iload_n hx hb dX1_numberWithout_5 rfl (lv_at hl 1 rfl) ?_
    refine lv_iconst (v := 1) hx hb dX1_numberWithout_6 (by decide) ?_
    refine lv_isub hx hb dX1_numberWithout_7 ?_
    refine lv_goto (tgt := 12) hx hb dX1_numberWithout_8 (by decide) ?_
    cases hf
    exact q_iret hx hb hr hlocks hw dX1_numberWithout_12

def f_X1_takeOut_l84    : Nat → RK → Int32 → Int32 → Option RK
  | 0, _, _, _ => none
  | n84 + 1, K, x1, x2 => (if (K 12 0) ≤ x2 then some K else nm (at_ 10 (K 4) x2) (fun r1 => bnd (f_X1_numberWithout x1 r1) (fun r2 => nm (upR K 4 (put_ 10 (K 4) x2 r2)) (fun K3 => nm (at_ 10 (K3 5) x2) (fun r4 => bnd (f_X1_numberWithout x1 r4) (fun r5 => nm (upR K3 5 (put_ 10 (K3 5) x2 r5)) (fun K6 => nm (x2 + 1) (fun v7 => (f_X1_takeOut_l84 n84) K6 x1 v7))))))))
def f_X1_takeOut (K : RK)  (a1 : Int32) : Option RK := bnd (f_X1_closeGap K 0 a1) (fun K1 => bnd (f_X1_closeGap K1 1 a1) (fun K2 => bnd (f_X1_closeGap K2 2 a1) (fun K3 => bnd (f_X1_closeGap K3 3 a1) (fun K4 => bnd (f_X1_closeGap K4 4 a1) (fun K5 => bnd (f_X1_closeGap K5 5 a1) (fun K6 => bnd (f_X1_closeGap K6 6 a1) (fun K7 => bnd (f_X1_closeGap K7 7 a1) (fun K8 => nm (upS K8 12 0 ((K8 12 0) - 1)) (fun K9 => f_X1_takeOut_l84 fuelN K9 a1 0)))))))))
set_option maxHeartbeats 4000000 in
set_option maxRecDepth 100000 in
theorem c_X1_takeOut {l : Launch} {D : va_G} {cI cR : ClassId} {ad : Nat → Nat} {A : Nat → Prop} {O : XO} {K : RK} {K' : RK} {a1 : Int32}   (hf : f_X1_takeOut K a1 = some K') : MC l yX1_takeOut wsX1_takeOut 2 45 D cI cR A [.ref (ad 2), .int a1] (xws cI cR ad O K) none (xws cI cR ad O K') := by
  refine Met.ofW (cc := cX1_takeOut) (maxL := 3) (ret := none) (by decide) rfl ?_
  intro p e s m args below meth c s₁ B hml hv
  obtain ⟨rfl, hw⟩ := q_start hv
  have hx := B.exec
  have hb := B.bytes
  have hr := B.returns
  have hts := atoms_spec (ws := wsX1_takeOut) B.pre
  have hown : s.vm.findClass RX1 = some m.cls := findClass_of_methodNamed B.named
  have hlocks := B.notSynchronized
  have hiX1 : ∀ w ∈ wsX10, w ∈ wsX1_takeOut := by decide +kernel
  have hl := lv_entry ([.ref (ad 2), .int a1]) (n := 3) (Nat.le_of_ble_eq_true rfl)
  rw [lg_entry_eq]
  generalize (lg_sl ([.ref (ad 2), .int a1]) ++ List.replicate (3 - (lg_sl ([.ref (ad 2), .int a1])).length) Slot.unset).toArray = ls at hl ⊢
  have hl : lv_has ls 3 [(0, .ref (ad 2)), (1, .int a1)] := hl
  unfold f_X1_takeOut at hf
  obtain ⟨H, eH⟩ : ∃ H, H = s.heap := ⟨_, rfl⟩
  obtain ⟨locs, eL⟩ : ∃ L : List Loc, L = [] := ⟨_, rfl⟩
  rw [← eH, ← eL] at hw ⊢
  clear eH eL
  have L84 : ∀ (n84 : Nat) (K : RK) (x1 : Int32) (x2 : Int32) (H : Heap) (locs : List Loc) (ls : Array Slot), f_X1_takeOut_l84 n84 K x1 x2 = some K' → WH D cI cR A (xws cI cR ad O K) s H locs → lv_has ls 3 [(0, .ref (ad 2)), (1, .int x1), (2, .int x2)] → W p l e (headSpec wsX1_takeOut ({ frames := 2, cells := 0, slots := 0, locals := 45 })).room s m ([.ref (ad 2), .int a1] : List Value).toArray below meth c H locs 0 0 (MQ below (QV none D A (xws cI cR ad O K')) (([.ref (ad 2), .int a1] : List Value)).toArray s 0 0 A) (F0 m 84 ls []) := by
    intro n84
    induction n84 with
    | zero => intro K x1 x2 H locs ls hf; cases hf
    | succ n84 ih =>
      have ih84 := ih
      intro K x1 x2 H locs ls hf hw hl
      simp only [f_X1_takeOut_l84] at hf
      refine lv_iload_n hx hb dX1_takeOut_84 rfl (lv_at hl 2 rfl) ?_
      refine lv_aload_n hx hb dX1_takeOut_85 rfl (lv_at hl 0 rfl) ?_
      refine q_get hx hb hts hiX1 hown hw 2 xa_2 rfl 8 (by decide) (hts (.fieldLink RX1 36 "LaceRanks$Guests" "size" "I") (by decide +kernel)) rfl dX1_takeOut_86 ?_
      refine lv_icmp_ge (tgt := 138) hx hb dX1_takeOut_89 (by decide) (fun hc => ?_) (fun hc => ?_)
      · have hf := iteT hf hc
        cases hf
        exact q_vret hx hb hr hlocks hw dX1_takeOut_138
      · have hf := iteF hf hc
        refine lv_aload_n hx hb dX1_takeOut_92 rfl (lv_at hl 0 rfl) ?_
        refine q_get hx hb hts hiX1 hown hw 2 xa_2 rfl 4 (by decide) (hts (.fieldLink RX1 24 "LaceRanks$Guests" "lender" "[I") (by decide +kernel)) rfl dX1_takeOut_93 ?_
        refine lv_iload_n hx hb dX1_takeOut_96 rfl (lv_at hl 2 rfl) ?_
        refine lv_iload_n hx hb dX1_takeOut_97 rfl (lv_at hl 1 rfl) ?_
        refine lv_aload_n hx hb dX1_takeOut_98 rfl (lv_at hl 0 rfl) ?_
        refine q_get hx hb hts hiX1 hown hw 2 xa_2 rfl 4 (by decide) (hts (.fieldLink RX1 24 "LaceRanks$Guests" "lender" "[I") (by decide +kernel)) rfl dX1_takeOut_99 ?_
        refine lv_iload_n hx hb dX1_takeOut_102 rfl (lv_at hl 2 rfl) ?_
        obtain ⟨r1, hr1, hf⟩ := nmE hf
        refine q_callSN (rest := [.int x1, .int x2, .ref (ad 7)]) (st1 := [.int r1, .int x1, .int x2, .ref (ad 7)]) [.ref (ad 7), .int x2] ⟨hx, hb, hml, hown, hts⟩ (c_X5_at (q0 := 7) xa_7 hr1) ⟨va_cnB 2 hts gX1_takeOut_X5_at_n48 rfl rfl rfl (nw_X1_48 hw.2.2.2.2) (hts (.initialized RX5) (by decide +kernel)) (by decide +kernel) ⟨Nat.le_of_ble_eq_true rfl, Nat.le_of_ble_eq_true rfl⟩, (hts (.static yX5_at) (by decide +kernel)), trivial⟩ hw rfl hl.1 rfl (Nat.le_of_ble_eq_true rfl) dX1_takeOut_103 ⟨Nat.zero_le _, Nat.zero_le _⟩ rfl (fun H locs hw => ?_)
        obtain ⟨r2, hr2, hf⟩ := bndS hf
        refine q_callS (rest := [.int x2, .ref (ad 7)]) (st1 := [.int r2, .int x2, .ref (ad 7)]) [.int x1, .int r1] ⟨hx, hb, hml, hown, hts⟩ (c_X1_numberWithout hr2) (va_cwS 2 hts gX1_takeOut_X1_numberWithout rfl rfl rfl (by decide +kernel) ⟨Nat.le_of_ble_eq_true rfl, Nat.le_of_ble_eq_true rfl⟩) hw rfl hl.1 rfl (Nat.le_of_ble_eq_true rfl) dX1_takeOut_106 ⟨Nat.zero_le _, Nat.zero_le _⟩ rfl (fun H locs hw => ?_)
        obtain ⟨K3, hK3, hf⟩ := nmE hf
        refine q_callSN (rest := []) (st1 := []) [.ref (ad 7), .int x2, .int r2] ⟨hx, hb, hml, hown, hts⟩ (c_X5_put (q0 := 7) xa_7 (xs_7.trans (congrArg (fun z => (xws cI cR ad O z)) hK3.symm))) ⟨va_cnB 3 hts gX1_takeOut_X5_put_n40 rfl rfl rfl (nw_X1_40 hw.2.2.2.2) (hts (.initialized RX5) (by decide +kernel)) (by decide +kernel) ⟨Nat.le_of_ble_eq_true rfl, Nat.le_of_ble_eq_true rfl⟩, (hts (.static yX5_put) (by decide +kernel)), trivial⟩ hw rfl hl.1 rfl (Nat.le_of_ble_eq_true rfl) dX1_takeOut_109 ⟨Nat.zero_le _, Nat.zero_le _⟩ rfl (fun H locs hw => ?_)
        refine lv_aload_n hx hb dX1_takeOut_112 rfl (lv_at hl 0 rfl) ?_
        refine q_get hx hb hts hiX1 hown hw 2 xa_2 rfl 5 (by decide) (hts (.fieldLink RX1 27 "LaceRanks$Guests" "borrower" "[I") (by decide +kernel)) rfl dX1_takeOut_113 ?_
        refine lv_iload_n hx hb dX1_takeOut_116 rfl (lv_at hl 2 rfl) ?_
        refine lv_iload_n hx hb dX1_takeOut_117 rfl (lv_at hl 1 rfl) ?_
        refine lv_aload_n hx hb dX1_takeOut_118 rfl (lv_at hl 0 rfl) ?_
        refine q_get hx hb hts hiX1 hown hw 2 xa_2 rfl 5 (by decide) (hts (.fieldLink RX1 27 "LaceRanks$Guests" "borrower" "[I") (by decide +kernel)) rfl dX1_takeOut_119 ?_
        refine lv_iload_n hx hb dX1_takeOut_122 rfl (lv_at hl 2 rfl) ?_
        obtain ⟨r4, hr4, hf⟩ := nmE hf
        refine q_callSN (rest := [.int x1, .int x2, .ref (ad 8)]) (st1 := [.int r4, .int x1, .int x2, .ref (ad 8)]) [.ref (ad 8), .int x2] ⟨hx, hb, hml, hown, hts⟩ (c_X5_at (q0 := 8) xa_8 hr4) ⟨va_cnB 2 hts gX1_takeOut_X5_at_n48 rfl rfl rfl (nw_X1_48 hw.2.2.2.2) (hts (.initialized RX5) (by decide +kernel)) (by decide +kernel) ⟨Nat.le_of_ble_eq_true rfl, Nat.le_of_ble_eq_true rfl⟩, (hts (.static yX5_at) (by decide +kernel)), trivial⟩ hw rfl hl.1 rfl (Nat.le_of_ble_eq_true rfl) dX1_takeOut_123 ⟨Nat.zero_le _, Nat.zero_le _⟩ rfl (fun H locs hw => ?_)
        obtain ⟨r5, hr5, hf⟩ := bndS hf
        refine q_callS (rest := [.int x2, .ref (ad 8)]) (st1 := [.int r5, .int x2, .ref (ad 8)]) [.int x1, .int r4] ⟨hx, hb, hml, hown, hts⟩ (c_X1_numberWithout hr5) (va_cwS 2 hts gX1_takeOut_X1_numberWithout rfl rfl rfl (by decide +kernel) ⟨Nat.le_of_ble_eq_true rfl, Nat.le_of_ble_eq_true rfl⟩) hw rfl hl.1 rfl (Nat.le_of_ble_eq_true rfl) dX1_takeOut_126 ⟨Nat.zero_le _, Nat.zero_le _⟩ rfl (fun H locs hw => ?_)
        obtain ⟨K6, hK6, hf⟩ := nmE hf
        refine q_callSN (rest := []) (st1 := []) [.ref (ad 8), .int x2, .int r5] ⟨hx, hb, hml, hown, hts⟩ (c_X5_put (q0 := 8) xa_8 (xs_8.trans (congrArg (fun z => (xws cI cR ad O z)) hK6.symm))) ⟨va_cnB 3 hts gX1_takeOut_X5_put_n40 rfl rfl rfl (nw_X1_40 hw.2.2.2.2) (hts (.initialized RX5) (by decide +kernel)) (by decide +kernel) ⟨Nat.le_of_ble_eq_true rfl, Nat.le_of_ble_eq_true rfl⟩, (hts (.static yX5_put) (by decide +kernel)), trivial⟩ hw rfl hl.1 rfl (Nat.le_of_ble_eq_true rfl) dX1_takeOut_129 ⟨Nat.zero_le _, Nat.zero_le _⟩ rfl (fun H locs hw => ?_)
        obtain ⟨v7, hv7, hf⟩ := nmE hf
        refine lv_iinc (v := v7) (lv' := [(2, .int v7), (0, .ref (ad 2)), (1, .int x1)]) hx hb dX1_takeOut_132 hl (k := 2) rfl (by rw [hv7]; rfl) (by decide) rfl (fun ls hl => ?_)
        refine lv_goto (tgt := 84) hx hb dX1_takeOut_135 (by decide) ?_
        exact ih84 K6 x1 v7 H locs ls hf hw (lv_sub hl [1, 2, 0] rfl)
  refine lv_aload_n hx hb dX1_takeOut_0 rfl (lv_at hl 0 rfl) ?_
  refine lv_aload_n hx hb dX1_takeOut_1 rfl (lv_at hl 0 rfl) ?_
  refine q_get hx hb hts hiX1 hown hw 2 xa_2 rfl 0 (by decide) (hts (.fieldLink RX1 9 "LaceRanks$Guests" "rank" "[I") (by decide +kernel)) rfl dX1_takeOut_2 ?_
  refine lv_iload_n hx hb dX1_takeOut_5 rfl (lv_at hl 1 rfl) ?_
  obtain ⟨K1, hr1, hf⟩ := bndS hf
  refine q_callV (rest := []) (st1 := []) [.ref (ad 3), .int a1] ⟨hx, hb, hml, hown, hts⟩ (c_X1_closeGap (by decide) hr1) (cwV 2 hts gX1_takeOut_X1_closeGap rfl rfl rfl (by decide +kernel) ⟨Nat.le_of_ble_eq_true rfl, Nat.le_of_ble_eq_true rfl⟩) hw xa_2 rfl rfl hl.1 rfl (Nat.le_of_ble_eq_true rfl) dX1_takeOut_6 ⟨Nat.zero_le _, Nat.zero_le _⟩ rfl (fun H locs hw => ?_)
  refine lv_aload_n hx hb dX1_takeOut_9 rfl (lv_at hl 0 rfl) ?_
  refine lv_aload_n hx hb dX1_takeOut_10 rfl (lv_at hl 0 rfl) ?_
  refine q_get hx hb hts hiX1 hown hw 2 xa_2 rfl 1 (by decide) (hts (.fieldLink RX1 15 "LaceRanks$Guests" "purse" "[I") (by decide +kernel)) rfl dX1_takeOut_11 ?_
  refine lv_iload_n hx hb dX1_takeOut_14 rfl (lv_at hl 1 rfl) ?_
  obtain ⟨K2, hr2, hf⟩ := bndS hf
  refine q_callV (rest := []) (st1 := []) [.ref (ad 4), .int a1] ⟨hx, hb, hml, hown, hts⟩ (c_X1_closeGap (by decide) hr2) (cwV 2 hts gX1_takeOut_X1_closeGap rfl rfl rfl (by decide +kernel) ⟨Nat.le_of_ble_eq_true rfl, Nat.le_of_ble_eq_true rfl⟩) hw xa_2 rfl rfl hl.1 rfl (Nat.le_of_ble_eq_true rfl) dX1_takeOut_15 ⟨Nat.zero_le _, Nat.zero_le _⟩ rfl (fun H locs hw => ?_)
  refine lv_aload_n hx hb dX1_takeOut_18 rfl (lv_at hl 0 rfl) ?_
  refine lv_aload_n hx hb dX1_takeOut_19 rfl (lv_at hl 0 rfl) ?_
  refine q_get hx hb hts hiX1 hown hw 2 xa_2 rfl 2 (by decide) (hts (.fieldLink RX1 18 "LaceRanks$Guests" "debts" "[I") (by decide +kernel)) rfl dX1_takeOut_20 ?_
  refine lv_iload_n hx hb dX1_takeOut_23 rfl (lv_at hl 1 rfl) ?_
  obtain ⟨K3, hr3, hf⟩ := bndS hf
  refine q_callV (rest := []) (st1 := []) [.ref (ad 5), .int a1] ⟨hx, hb, hml, hown, hts⟩ (c_X1_closeGap (by decide) hr3) (cwV 2 hts gX1_takeOut_X1_closeGap rfl rfl rfl (by decide +kernel) ⟨Nat.le_of_ble_eq_true rfl, Nat.le_of_ble_eq_true rfl⟩) hw xa_2 rfl rfl hl.1 rfl (Nat.le_of_ble_eq_true rfl) dX1_takeOut_24 ⟨Nat.zero_le _, Nat.zero_le _⟩ rfl (fun H locs hw => ?_)
  refine lv_aload_n hx hb dX1_takeOut_27 rfl (lv_at hl 0 rfl) ?_
  refine lv_aload_n hx hb dX1_takeOut_28 rfl (lv_at hl 0 rfl) ?_
  refine q_get hx hb hts hiX1 hown hw 2 xa_2 rfl 3 (by decide) (hts (.fieldLink RX1 21 "LaceRanks$Guests" "lace" "[I") (by decide +kernel)) rfl dX1_takeOut_29 ?_
  refine lv_iload_n hx hb dX1_takeOut_32 rfl (lv_at hl 1 rfl) ?_
  obtain ⟨K4, hr4, hf⟩ := bndS hf
  refine q_callV (rest := []) (st1 := []) [.ref (ad 6), .int a1] ⟨hx, hb, hml, hown, hts⟩ (c_X1_closeGap (by decide) hr4) (cwV 2 hts gX1_takeOut_X1_closeGap rfl rfl rfl (by decide +kernel) ⟨Nat.le_of_ble_eq_true rfl, Nat.le_of_ble_eq_true rfl⟩) hw xa_2 rfl rfl hl.1 rfl (Nat.le_of_ble_eq_true rfl) dX1_takeOut_33 ⟨Nat.zero_le _, Nat.zero_le _⟩ rfl (fun H locs hw => ?_)
  refine lv_aload_n hx hb dX1_takeOut_36 rfl (lv_at hl 0 rfl) ?_
  refine lv_aload_n hx hb dX1_takeOut_37 rfl (lv_at hl 0 rfl) ?_
  refine q_get hx hb hts hiX1 hown hw 2 xa_2 rfl 4 (by decide) (hts (.fieldLink RX1 24 "LaceRanks$Guests" "lender" "[I") (by decide +kernel)) rfl dX1_takeOut_38 ?_
  refine lv_iload_n hx hb dX1_takeOut_41 rfl (lv_at hl 1 rfl) ?_
  obtain ⟨K5, hr5, hf⟩ := bndS hf
  refine q_callV (rest := []) (st1 := []) [.ref (ad 7), .int a1] ⟨hx, hb, hml, hown, hts⟩ (c_X1_closeGap (by decide) hr5) (cwV 2 hts gX1_takeOut_X1_closeGap rfl rfl rfl (by decide +kernel) ⟨Nat.le_of_ble_eq_true rfl, Nat.le_of_ble_eq_true rfl⟩) hw xa_2 rfl rfl hl.1 rfl (Nat.le_of_ble_eq_true rfl) dX1_takeOut_42 ⟨Nat.zero_le _, Nat.zero_le _⟩ rfl (fun H locs hw => ?_)
  refine lv_aload_n hx hb dX1_takeOut_45 rfl (lv_at hl 0 rfl) ?_
  refine lv_aload_n hx hb dX1_takeOut_46 rfl (lv_at hl 0 rfl) ?_
  refine q_get hx hb hts hiX1 hown hw 2 xa_2 rfl 5 (by decide) (hts (.fieldLink RX1 27 "LaceRanks$Guests" "borrower" "[I") (by decide +kernel)) rfl dX1_takeOut_47 ?_
  refine lv_iload_n hx hb dX1_takeOut_50 rfl (lv_at hl 1 rfl) ?_
  obtain ⟨K6, hr6, hf⟩ := bndS hf
  refine q_callV (rest := []) (st1 := []) [.ref (ad 8), .int a1] ⟨hx, hb, hml, hown, hts⟩ (c_X1_closeGap (by decide) hr6) (cwV 2 hts gX1_takeOut_X1_closeGap rfl rfl rfl (by decide +kernel) ⟨Nat.le_of_ble_eq_true rfl, Nat.le_of_ble_eq_true rfl⟩) hw xa_2 rfl rfl hl.1 rfl (Nat.le_of_ble_eq_true rfl) dX1_takeOut_51 ⟨Nat.zero_le _, Nat.zero_le _⟩ rfl (fun H locs hw => ?_)
  refine lv_aload_n hx hb dX1_takeOut_54 rfl (lv_at hl 0 rfl) ?_
  refine lv_aload_n hx hb dX1_takeOut_55 rfl (lv_at hl 0 rfl) ?_
  refine q_get hx hb hts hiX1 hown hw 2 xa_2 rfl 6 (by decide) (hts (.fieldLink RX1 30 "LaceRanks$Guests" "maskNights" "[I") (by decide +kernel)) rfl dX1_takeOut_56 ?_
  refine lv_iload_n hx hb dX1_takeOut_59 rfl (lv_at hl 1 rfl) ?_
  obtain ⟨K7, hr7, hf⟩ := bndS hf
  refine q_callV (rest := []) (st1 := []) [.ref (ad 9), .int a1] ⟨hx, hb, hml, hown, hts⟩ (c_X1_closeGap (by decide) hr7) (cwV 2 hts gX1_takeOut_X1_closeGap rfl rfl rfl (by decide +kernel) ⟨Nat.le_of_ble_eq_true rfl, Nat.le_of_ble_eq_true rfl⟩) hw xa_2 rfl rfl hl.1 rfl (Nat.le_of_ble_eq_true rfl) dX1_takeOut_60 ⟨Nat.zero_le _, Nat.zero_le _⟩ rfl (fun H locs hw => ?_)
  refine lv_aload_n hx hb dX1_takeOut_63 rfl (lv_at hl 0 rfl) ?_
  refine lv_aload_n hx hb dX1_takeOut_64 rfl (lv_at hl 0 rfl) ?_
  refine q_get hx hb hts hiX1 hown hw 2 xa_2 rfl 7 (by decide) (hts (.fieldLink RX1 33 "LaceRanks$Guests" "inside" "[I") (by decide +kernel)) rfl dX1_takeOut_65 ?_
  refine lv_iload_n hx hb dX1_takeOut_68 rfl (lv_at hl 1 rfl) ?_
  obtain ⟨K8, hr8, hf⟩ := bndS hf
  refine q_callV (rest := []) (st1 := []) [.ref (ad 10), .int a1] ⟨hx, hb, hml, hown, hts⟩ (c_X1_closeGap (by decide) hr8) (cwV 2 hts gX1_takeOut_X1_closeGap rfl rfl rfl (by decide +kernel) ⟨Nat.le_of_ble_eq_true rfl, Nat.le_of_ble_eq_true rfl⟩) hw xa_2 rfl rfl hl.1 rfl (Nat.le_of_ble_eq_true rfl) dX1_takeOut_69 ⟨Nat.zero_le _, Nat.zero_le _⟩ rfl (fun H locs hw => ?_)
  refine lv_aload_n hx hb dX1_takeOut_72 rfl (lv_at hl 0 rfl) ?_
  refine lv_dup hx hb dX1_takeOut_73 rfl ?_
  refine q_get hx hb hts hiX1 hown hw 2 xa_2 rfl 8 (by decide) (hts (.fieldLink RX1 36 "LaceRanks$Guests" "size" "I") (by decide +kernel)) rfl dX1_takeOut_74 ?_
  refine lv_iconst (v := 1) hx hb dX1_takeOut_77 (by decide) ?_
  refine lv_isub hx hb dX1_takeOut_78 ?_
  obtain ⟨K9, hK9, hf⟩ := nmE hf
  refine q_put (ty := .int) hx hb hts hiX1 tyX1 tyX1_ok nmX1 hown hw 2 xa_2 rfl 8 (by decide) (hts (.fieldLink RX1 36 "LaceRanks$Guests" "size" "I") (by decide +kernel)) rfl (by decide +kernel) rfl rfl (Nat.le_of_ble_eq_true rfl) dX1_takeOut_79 (xs_2_8.trans (congrArg (fun z => (xws cI cR ad O z)) hK9.symm)) (fun H locs hw => ?_)
  refine lv_iconst (v := 0) hx hb dX1_takeOut_82 (by decide) ?_
  refine lv_istore_n (lv' := [(2, .int 0), (0, .ref (ad 2)), (1, .int a1)]) hx hb dX1_takeOut_83 rfl hl (by decide) rfl (fun ls hl => ?_)
  exact L84 fuelN K9 a1 0 H locs ls hf hw (lv_sub hl [1, 2, 0] rfl)

def f_X1_wornCoat (K : RK)  (a1 : Int32) : Option Int32 := nm (at_ 10 (K 4) a1) (fun r1 => (if r1 = (-1) then nm (at_ 10 (K 5) a1) (fun r2 => (if r2 = (-1) then some a1 else some (-1))) else some r1))
set_option maxHeartbeats 4000000 in
set_option maxRecDepth 100000 in
theorem c_X1_wornCoat {l : Launch} {D : va_G} {cI cR : ClassId} {ad : Nat → Nat} {A : Nat → Prop} {O : XO} {K : RK}  {a1 : Int32} {r : Int32}  (hf : f_X1_wornCoat K a1 = some r) : MC l yX1_wornCoat wsX1_wornCoat 1 21 D cI cR A [.ref (ad 2), .int a1] (xws cI cR ad O K) (some (.int r)) (xws cI cR ad O K) := by
  refine Met.ofW (cc := cX1_wornCoat) (maxL := 3) (ret := (some .int)) (by decide) rfl ?_
  intro p e s m args below meth c s₁ B hml hv
  obtain ⟨rfl, hw⟩ := q_start hv
  have hx := B.exec
  have hb := B.bytes
  have hr := B.returns
  have hts := atoms_spec (ws := wsX1_wornCoat) B.pre
  have hown : s.vm.findClass RX1 = some m.cls := findClass_of_methodNamed B.named
  have hlocks := B.notSynchronized
  have hiX1 : ∀ w ∈ wsX10, w ∈ wsX1_wornCoat := by decide +kernel
  have hl := lv_entry ([.ref (ad 2), .int a1]) (n := 3) (Nat.le_of_ble_eq_true rfl)
  rw [lg_entry_eq]
  generalize (lg_sl ([.ref (ad 2), .int a1]) ++ List.replicate (3 - (lg_sl ([.ref (ad 2), .int a1])).length) Slot.unset).toArray = ls at hl ⊢
  have hl : lv_has ls 3 [(0, .ref (ad 2)), (1, .int a1)] := hl
  unfold f_X1_wornCoat at hf
  obtain ⟨H, eH⟩ : ∃ H, H = s.heap := ⟨_, rfl⟩
  obtain ⟨locs, eL⟩ : ∃ L : List Loc, L = [] := ⟨_, rfl⟩
  rw [← eH, ← eL] at hw ⊢
  clear eH eL
  refine lv_aload_n hx hb dX1_wornCoat_0 rfl (lv_at hl 0 rfl) ?_
  refine q_get hx hb hts hiX1 hown hw 2 xa_2 rfl 4 (by decide) (hts (.fieldLink RX1 24 "LaceRanks$Guests" "lender" "[I") (by decide +kernel)) rfl dX1_wornCoat_1 ?_
  refine lv_iload_n hx hb dX1_wornCoat_4 rfl (lv_at hl 1 rfl) ?_
  obtain ⟨r1, hr1, hf⟩ := nmE hf
  refine q_callSN (rest := []) (st1 := [.int r1]) [.ref (ad 7), .int a1] ⟨hx, hb, hml, hown, hts⟩ (c_X5_at (q0 := 7) xa_7 hr1) ⟨va_cnB 2 hts gX1_wornCoat_X5_at_n48 rfl rfl rfl (nw_X1_48 hw.2.2.2.2) (hts (.initialized RX5) (by decide +kernel)) (by decide +kernel) ⟨Nat.le_of_ble_eq_true rfl, Nat.le_of_ble_eq_true rfl⟩, (hts (.static yX5_at) (by decide +kernel)), trivial⟩ hw rfl hl.1 rfl (Nat.le_of_ble_eq_true rfl) dX1_wornCoat_5 ⟨Nat.zero_le _, Nat.zero_le _⟩ rfl (fun H locs hw => ?_)
  refine lv_istore_n (lv' := [(2, .int r1), (0, .ref (ad 2)), (1, .int a1)]) hx hb dX1_wornCoat_8 rfl hl (by decide) rfl (fun ls hl => ?_)
  refine lv_iload_n hx hb dX1_wornCoat_9 rfl (lv_at hl 0 rfl) ?_
  refine lv_iconst (v := (-1)) hx hb dX1_wornCoat_10 (by decide) ?_
  refine lv_icmp_eq (tgt := 16) hx hb dX1_wornCoat_11 (by decide) (fun hc => ?_) (fun hc => ?_)
  · have hf := iteT hf hc
    refine lv_aload_n hx hb dX1_wornCoat_16 rfl (lv_at hl 1 rfl) ?_
    refine q_get hx hb hts hiX1 hown hw 2 xa_2 rfl 5 (by decide) (hts (.fieldLink RX1 27 "LaceRanks$Guests" "borrower" "[I") (by decide +kernel)) rfl dX1_wornCoat_17 ?_
    refine lv_iload_n hx hb dX1_wornCoat_20 rfl (lv_at hl 2 rfl) ?_
    obtain ⟨r2, hr2, hf⟩ := nmE hf
    refine q_callSN (rest := []) (st1 := [.int r2]) [.ref (ad 8), .int a1] ⟨hx, hb, hml, hown, hts⟩ (c_X5_at (q0 := 8) xa_8 hr2) ⟨va_cnB 2 hts gX1_wornCoat_X5_at_n48 rfl rfl rfl (nw_X1_48 hw.2.2.2.2) (hts (.initialized RX5) (by decide +kernel)) (by decide +kernel) ⟨Nat.le_of_ble_eq_true rfl, Nat.le_of_ble_eq_true rfl⟩, (hts (.static yX5_at) (by decide +kernel)), trivial⟩ hw rfl hl.1 rfl (Nat.le_of_ble_eq_true rfl) dX1_wornCoat_21 ⟨Nat.zero_le _, Nat.zero_le _⟩ rfl (fun H locs hw => ?_)
    refine lv_iconst (v := (-1)) hx hb dX1_wornCoat_24 (by decide) ?_
    refine lv_icmp_ne (tgt := 32) hx hb dX1_wornCoat_25 (by decide) (fun hc => ?_) (fun hc => ?_)
    · have hf := iteF hf hc
      refine lv_iconst (v := (-1)) hx hb dX1_wornCoat_32 (by decide) ?_
      cases hf
      exact q_iret hx hb hr hlocks hw dX1_wornCoat_33
    · have hf := iteT hf hc
      refine lv_iload_n hx hb dX1_wornCoat_28 rfl (lv_at hl 2 rfl) ?_
      refine lv_goto (tgt := 33) hx hb dX1_wornCoat_29 (by decide) ?_
      cases hf
      exact q_iret hx hb hr hlocks hw dX1_wornCoat_33
  · have hf := iteF hf hc
    refine lv_iload_n hx hb dX1_wornCoat_14 rfl (lv_at hl 0 rfl) ?_
    cases hf
    exact q_iret hx hb hr hlocks hw dX1_wornCoat_15

def f_X1_wornLace (K : RK)  (a1 : Int32) : Option Int32 := bnd (f_X1_wornCoat K a1) (fun r1 => (if r1 = (-1) then some 0 else nm (at_ 10 (K 3) r1) (fun r2 => some r2)))
set_option maxHeartbeats 4000000 in
set_option maxRecDepth 100000 in
theorem c_X1_wornLace {l : Launch} {D : va_G} {cI cR : ClassId} {ad : Nat → Nat} {A : Nat → Prop} {O : XO} {K : RK}  {a1 : Int32} {r : Int32}  (hf : f_X1_wornLace K a1 = some r) : MC l yX1_wornLace wsX1_wornLace 2 43 D cI cR A [.ref (ad 2), .int a1] (xws cI cR ad O K) (some (.int r)) (xws cI cR ad O K) := by
  refine Met.ofW (cc := cX1_wornLace) (maxL := 3) (ret := (some .int)) (by decide) rfl ?_
  intro p e s m args below meth c s₁ B hml hv
  obtain ⟨rfl, hw⟩ := q_start hv
  have hx := B.exec
  have hb := B.bytes
  have hr := B.returns
  have hts := atoms_spec (ws := wsX1_wornLace) B.pre
  have hown : s.vm.findClass RX1 = some m.cls := findClass_of_methodNamed B.named
  have hlocks := B.notSynchronized
  have hiX1 : ∀ w ∈ wsX10, w ∈ wsX1_wornLace := by decide +kernel
  have hl := lv_entry ([.ref (ad 2), .int a1]) (n := 3) (Nat.le_of_ble_eq_true rfl)
  rw [lg_entry_eq]
  generalize (lg_sl ([.ref (ad 2), .int a1]) ++ List.replicate (3 - (lg_sl ([.ref (ad 2), .int a1])).length) Slot.unset).toArray = ls at hl ⊢
  have hl : lv_has ls 3 [(0, .ref (ad 2)), (1, .int a1)] := hl
  unfold f_X1_wornLace at hf
  obtain ⟨H, eH⟩ : ∃ H, H = s.heap := ⟨_, rfl⟩
  obtain ⟨locs, eL⟩ : ∃ L : List Loc, L = [] := ⟨_, rfl⟩
  rw [← eH, ← eL] at hw ⊢
  clear eH eL
  refine lv_aload_n hx hb dX1_wornLace_0 rfl (lv_at hl 0 rfl) ?_
  refine lv_iload_n hx hb dX1_wornLace_1 rfl (lv_at hl 1 rfl) ?_
  obtain ⟨r1, hr1, hf⟩ := bndS hf
  refine q_callV (rest := []) (st1 := [.int r1]) [.int a1] ⟨hx, hb, hml, hown, hts⟩ (c_X1_wornCoat hr1) (cwV 1 hts gX1_wornLace_X1_wornCoat rfl rfl rfl (by decide +kernel) ⟨Nat.le_of_ble_eq_true rfl, Nat.le_of_ble_eq_true rfl⟩) hw xa_2 rfl rfl hl.1 rfl (Nat.le_of_ble_eq_true rfl) dX1_wornLace_2 ⟨Nat.zero_le _, Nat.zero_le _⟩ rfl (fun H locs hw => ?_)
  refine lv_istore_n (lv' := [(2, .int r1), (0, .ref (ad 2)), (1, .int a1)]) hx hb dX1_wornLace_5 rfl hl (by decide) rfl (fun ls hl => ?_)
  refine lv_iload_n hx hb dX1_wornLace_6 rfl (lv_at hl 0 rfl) ?_
  refine lv_iconst (v := (-1)) hx hb dX1_wornLace_7 (by decide) ?_
  refine lv_icmp_ne (tgt := 15) hx hb dX1_wornLace_8 (by decide) (fun hc => ?_) (fun hc => ?_)
  · have hf := iteF hf hc
    refine lv_aload_n hx hb dX1_wornLace_15 rfl (lv_at hl 1 rfl) ?_
    refine q_get hx hb hts hiX1 hown hw 2 xa_2 rfl 3 (by decide) (hts (.fieldLink RX1 21 "LaceRanks$Guests" "lace" "[I") (by decide +kernel)) rfl dX1_wornLace_16 ?_
    refine lv_iload_n hx hb dX1_wornLace_19 rfl (lv_at hl 0 rfl) ?_
    obtain ⟨r2, hr2, hf⟩ := nmE hf
    refine q_callSN (rest := []) (st1 := [.int r2]) [.ref (ad 6), .int r1] ⟨hx, hb, hml, hown, hts⟩ (c_X5_at (q0 := 6) xa_6 hr2) ⟨va_cnB 2 hts gX1_wornLace_X5_at_n48 rfl rfl rfl (nw_X1_48 hw.2.2.2.2) (hts (.initialized RX5) (by decide +kernel)) (by decide +kernel) ⟨Nat.le_of_ble_eq_true rfl, Nat.le_of_ble_eq_true rfl⟩, (hts (.static yX5_at) (by decide +kernel)), trivial⟩ hw rfl hl.1 rfl (Nat.le_of_ble_eq_true rfl) dX1_wornLace_20 ⟨Nat.zero_le _, Nat.zero_le _⟩ rfl (fun H locs hw => ?_)
    cases hf
    exact q_iret hx hb hr hlocks hw dX1_wornLace_23
  · have hf := iteT hf hc
    refine lv_iconst (v := 0) hx hb dX1_wornLace_11 (by decide) ?_
    refine lv_goto (tgt := 23) hx hb dX1_wornLace_12 (by decide) ?_
    cases hf
    exact q_iret hx hb hr hlocks hw dX1_wornLace_23

def f_X1_isIn (K : RK)  (a1 : Int32) : Option Int32 := nm (at_ 10 (K 7) a1) (fun r1 => (if r1 = 0 then some 0 else some 1))
set_option maxHeartbeats 4000000 in
set_option maxRecDepth 100000 in
theorem c_X1_isIn {l : Launch} {D : va_G} {cI cR : ClassId} {ad : Nat → Nat} {A : Nat → Prop} {O : XO} {K : RK}  {a1 : Int32} {r : Int32}  (hf : f_X1_isIn K a1 = some r) : MC l yX1_isIn wsX1_isIn 1 21 D cI cR A [.ref (ad 2), .int a1] (xws cI cR ad O K) (some (.int r)) (xws cI cR ad O K) := by
  refine Met.ofW (cc := cX1_isIn) (maxL := 2) (ret := (some .boolean)) (by decide) rfl ?_
  intro p e s m args below meth c s₁ B hml hv
  obtain ⟨rfl, hw⟩ := q_start hv
  have hx := B.exec
  have hb := B.bytes
  have hr := B.returns
  have hts := atoms_spec (ws := wsX1_isIn) B.pre
  have hown : s.vm.findClass RX1 = some m.cls := findClass_of_methodNamed B.named
  have hlocks := B.notSynchronized
  have hiX1 : ∀ w ∈ wsX10, w ∈ wsX1_isIn := by decide +kernel
  have hl := lv_entry ([.ref (ad 2), .int a1]) (n := 2) (Nat.le_of_ble_eq_true rfl)
  rw [lg_entry_eq]
  generalize (lg_sl ([.ref (ad 2), .int a1]) ++ List.replicate (2 - (lg_sl ([.ref (ad 2), .int a1])).length) Slot.unset).toArray = ls at hl ⊢
  have hl : lv_has ls 2 [(0, .ref (ad 2)), (1, .int a1)] := hl
  unfold f_X1_isIn at hf
  obtain ⟨H, eH⟩ : ∃ H, H = s.heap := ⟨_, rfl⟩
  obtain ⟨locs, eL⟩ : ∃ L : List Loc, L = [] := ⟨_, rfl⟩
  rw [← eH, ← eL] at hw ⊢
  clear eH eL
  refine lv_aload_n hx hb dX1_isIn_0 rfl (lv_at hl 0 rfl) ?_
  refine q_get hx hb hts hiX1 hown hw 2 xa_2 rfl 7 (by decide) (hts (.fieldLink RX1 33 "LaceRanks$Guests" "inside" "[I") (by decide +kernel)) rfl dX1_isIn_1 ?_
  refine lv_iload_n hx hb dX1_isIn_4 rfl (lv_at hl 1 rfl) ?_
  obtain ⟨r1, hr1, hf⟩ := nmE hf
  refine q_callSN (rest := []) (st1 := [.int r1]) [.ref (ad 10), .int a1] ⟨hx, hb, hml, hown, hts⟩ (c_X5_at (q0 := 10) xa_10 hr1) ⟨va_cnB 2 hts gX1_isIn_X5_at_n48 rfl rfl rfl (nw_X1_48 hw.2.2.2.2) (hts (.initialized RX5) (by decide +kernel)) (by decide +kernel) ⟨Nat.le_of_ble_eq_true rfl, Nat.le_of_ble_eq_true rfl⟩, (hts (.static yX5_at) (by decide +kernel)), trivial⟩ hw rfl hl.1 rfl (Nat.le_of_ble_eq_true rfl) dX1_isIn_5 ⟨Nat.zero_le _, Nat.zero_le _⟩ rfl (fun H locs hw => ?_)
  refine lv_if_eq (tgt := 15) hx hb dX1_isIn_8 (by decide) (fun hc => ?_) (fun hc => ?_)
  · have hf := iteT hf hc
    refine lv_iconst (v := 0) hx hb dX1_isIn_15 (by decide) ?_
    cases hf
    exact q_zret hx hb hr nb_0 hlocks hw dX1_isIn_16
  · have hf := iteF hf hc
    refine lv_iconst (v := 1) hx hb dX1_isIn_11 (by decide) ?_
    refine lv_goto (tgt := 16) hx hb dX1_isIn_12 (by decide) ?_
    cases hf
    exact q_zret hx hb hr nb_1 hlocks hw dX1_isIn_16

def f_X1_reasonNoLoan (K : RK)  (a1 : Int32) (a2 : Int32) : Option Int32 := (if a1 = a2 then some 1 else bnd (f_X1_wornCoat K a1) (fun r1 => (if r1 = a1 then nm (at_ 10 (K 4) a2) (fun r2 => (if r2 = (-1) then bnd (f_X1_isIn K a2) (fun r3 => (if r3 = 0 then some 0 else some 3)) else some 3)) else some 2)))
set_option maxHeartbeats 4000000 in
set_option maxRecDepth 100000 in
theorem c_X1_reasonNoLoan {l : Launch} {D : va_G} {cI cR : ClassId} {ad : Nat → Nat} {A : Nat → Prop} {O : XO} {K : RK}  {a1 : Int32} {a2 : Int32} {r : Int32}  (hf : f_X1_reasonNoLoan K a1 a2 = some r) : MC l yX1_reasonNoLoan wsX1_reasonNoLoan 2 43 D cI cR A [.ref (ad 2), .int a1, .int a2] (xws cI cR ad O K) (some (.int r)) (xws cI cR ad O K) := by
  refine Met.ofW (cc := cX1_reasonNoLoan) (maxL := 3) (ret := (some .int)) (by decide) rfl ?_
  intro p e s m args below meth c s₁ B hml hv
  obtain ⟨rfl, hw⟩ := q_start hv
  have hx := B.exec
  have hb := B.bytes
  have hr := B.returns
  have hts := atoms_spec (ws := wsX1_reasonNoLoan) B.pre
  have hown : s.vm.findClass RX1 = some m.cls := findClass_of_methodNamed B.named
  have hlocks := B.notSynchronized
  have hiX1 : ∀ w ∈ wsX10, w ∈ wsX1_reasonNoLoan := by decide +kernel
  have hl := lv_entry ([.ref (ad 2), .int a1, .int a2]) (n := 3) (Nat.le_of_ble_eq_true rfl)
  rw [lg_entry_eq]
  generalize (lg_sl ([.ref (ad 2), .int a1, .int a2]) ++ List.replicate (3 - (lg_sl ([.ref (ad 2), .int a1, .int a2])).length) Slot.unset).toArray = ls at hl ⊢
  have hl : lv_has ls 3 [(0, .ref (ad 2)), (1, .int a1), (2, .int a2)] := hl
  unfold f_X1_reasonNoLoan at hf
  obtain ⟨H, eH⟩ : ∃ H, H = s.heap := ⟨_, rfl⟩
  obtain ⟨locs, eL⟩ : ∃ L : List Loc, L = [] := ⟨_, rfl⟩
  rw [← eH, ← eL] at hw ⊢
  clear eH eL
  refine lv_iload_n hx hb dX1_reasonNoLoan_0 rfl (lv_at hl 1 rfl) ?_
  refine lv_iload_n hx hb dX1_reasonNoLoan_1 rfl (lv_at hl 2 rfl) ?_
  refine lv_icmp_ne (tgt := 7) hx hb dX1_reasonNoLoan_2 (by decide) (fun hc => ?_) (fun hc => ?_)
  · have hf := iteF hf hc
    refine lv_aload_n hx hb dX1_reasonNoLoan_7 rfl (lv_at hl 0 rfl) ?_
    refine lv_iload_n hx hb dX1_reasonNoLoan_8 rfl (lv_at hl 1 rfl) ?_
    obtain ⟨r1, hr1, hf⟩ := bndS hf
    refine q_callV (rest := []) (st1 := [.int r1]) [.int a1] ⟨hx, hb, hml, hown, hts⟩ (c_X1_wornCoat hr1) (cwV 1 hts gX1_reasonNoLoan_X1_wornCoat rfl rfl rfl (by decide +kernel) ⟨Nat.le_of_ble_eq_true rfl, Nat.le_of_ble_eq_true rfl⟩) hw xa_2 rfl rfl hl.1 rfl (Nat.le_of_ble_eq_true rfl) dX1_reasonNoLoan_9 ⟨Nat.zero_le _, Nat.zero_le _⟩ rfl (fun H locs hw => ?_)
    refine lv_iload_n hx hb dX1_reasonNoLoan_12 rfl (lv_at hl 1 rfl) ?_
    refine lv_icmp_eq (tgt := 18) hx hb dX1_reasonNoLoan_13 (by decide) (fun hc => ?_) (fun hc => ?_)
    · have hf := iteT hf hc
      refine lv_aload_n hx hb dX1_reasonNoLoan_18 rfl (lv_at hl 0 rfl) ?_
      refine q_get hx hb hts hiX1 hown hw 2 xa_2 rfl 4 (by decide) (hts (.fieldLink RX1 24 "LaceRanks$Guests" "lender" "[I") (by decide +kernel)) rfl dX1_reasonNoLoan_19 ?_
      refine lv_iload_n hx hb dX1_reasonNoLoan_22 rfl (lv_at hl 2 rfl) ?_
      obtain ⟨r2, hr2, hf⟩ := nmE hf
      refine q_callSN (rest := []) (st1 := [.int r2]) [.ref (ad 7), .int a2] ⟨hx, hb, hml, hown, hts⟩ (c_X5_at (q0 := 7) xa_7 hr2) ⟨va_cnB 2 hts gX1_reasonNoLoan_X5_at_n48 rfl rfl rfl (nw_X1_48 hw.2.2.2.2) (hts (.initialized RX5) (by decide +kernel)) (by decide +kernel) ⟨Nat.le_of_ble_eq_true rfl, Nat.le_of_ble_eq_true rfl⟩, (hts (.static yX5_at) (by decide +kernel)), trivial⟩ hw rfl hl.1 rfl (Nat.le_of_ble_eq_true rfl) dX1_reasonNoLoan_23 ⟨Nat.zero_le _, Nat.zero_le _⟩ rfl (fun H locs hw => ?_)
      refine lv_iconst (v := (-1)) hx hb dX1_reasonNoLoan_26 (by decide) ?_
      refine lv_icmp_ne (tgt := 38) hx hb dX1_reasonNoLoan_27 (by decide) (fun hc => ?_) (fun hc => ?_)
      · have hf := iteF hf hc
        refine lv_iconst (v := 3) hx hb dX1_reasonNoLoan_38 (by decide) ?_
        refine lv_goto (tgt := 43) hx hb dX1_reasonNoLoan_39 (by decide) ?_
        cases hf
        exact q_iret hx hb hr hlocks hw dX1_reasonNoLoan_43
      · have hf := iteT hf hc
        refine lv_aload_n hx hb dX1_reasonNoLoan_30 rfl (lv_at hl 0 rfl) ?_
        refine lv_iload_n hx hb dX1_reasonNoLoan_31 rfl (lv_at hl 2 rfl) ?_
        obtain ⟨r3, hr3, hf⟩ := bndS hf
        refine q_callV (rest := []) (st1 := [.int r3]) [.int a2] ⟨hx, hb, hml, hown, hts⟩ (c_X1_isIn hr3) (cwV 1 hts gX1_reasonNoLoan_X1_isIn rfl rfl rfl (by decide +kernel) ⟨Nat.le_of_ble_eq_true rfl, Nat.le_of_ble_eq_true rfl⟩) hw xa_2 rfl rfl hl.1 rfl (Nat.le_of_ble_eq_true rfl) dX1_reasonNoLoan_32 ⟨Nat.zero_le _, Nat.zero_le _⟩ rfl (fun H locs hw => ?_)
        refine lv_if_eq (tgt := 42) hx hb dX1_reasonNoLoan_35 (by decide) (fun hc => ?_) (fun hc => ?_)
        · have hf := iteT hf hc
          refine lv_iconst (v := 0) hx hb dX1_reasonNoLoan_42 (by decide) ?_
          cases hf
          exact q_iret hx hb hr hlocks hw dX1_reasonNoLoan_43
        · have hf := iteF hf hc
          refine lv_iconst (v := 3) hx hb dX1_reasonNoLoan_38 (by decide) ?_
          refine lv_goto (tgt := 43) hx hb dX1_reasonNoLoan_39 (by decide) ?_
          cases hf
          exact q_iret hx hb hr hlocks hw dX1_reasonNoLoan_43
    · have hf := iteF hf hc
      refine lv_iconst (v := 2) hx hb dX1_reasonNoLoan_16 (by decide) ?_
      cases hf
      exact q_iret hx hb hr hlocks hw dX1_reasonNoLoan_17
  · have hf := iteT hf hc
    refine lv_iconst (v := 1) hx hb dX1_reasonNoLoan_5 (by decide) ?_
    cases hf
    exact q_iret hx hb hr hlocks hw dX1_reasonNoLoan_6

def f_X1_lendCoat (K : RK)  (a1 : Int32) (a2 : Int32) : Option RK := nm (upR K 5 (put_ 10 (K 5) a1 a2)) (fun K1 => nm (upR K1 4 (put_ 10 (K1 4) a2 a1)) (fun K2 => some K2))
set_option maxHeartbeats 4000000 in
set_option maxRecDepth 100000 in
theorem c_X1_lendCoat {l : Launch} {D : va_G} {cI cR : ClassId} {ad : Nat → Nat} {A : Nat → Prop} {O : XO} {K : RK} {K' : RK} {a1 : Int32} {a2 : Int32}   (hf : f_X1_lendCoat K a1 a2 = some K') : MC l yX1_lendCoat wsX1_lendCoat 1 22 D cI cR A [.ref (ad 2), .int a1, .int a2] (xws cI cR ad O K) none (xws cI cR ad O K') := by
  refine Met.ofW (cc := cX1_lendCoat) (maxL := 3) (ret := none) (by decide) rfl ?_
  intro p e s m args below meth c s₁ B hml hv
  obtain ⟨rfl, hw⟩ := q_start hv
  have hx := B.exec
  have hb := B.bytes
  have hr := B.returns
  have hts := atoms_spec (ws := wsX1_lendCoat) B.pre
  have hown : s.vm.findClass RX1 = some m.cls := findClass_of_methodNamed B.named
  have hlocks := B.notSynchronized
  have hiX1 : ∀ w ∈ wsX10, w ∈ wsX1_lendCoat := by decide +kernel
  have hl := lv_entry ([.ref (ad 2), .int a1, .int a2]) (n := 3) (Nat.le_of_ble_eq_true rfl)
  rw [lg_entry_eq]
  generalize (lg_sl ([.ref (ad 2), .int a1, .int a2]) ++ List.replicate (3 - (lg_sl ([.ref (ad 2), .int a1, .int a2])).length) Slot.unset).toArray = ls at hl ⊢
  have hl : lv_has ls 3 [(0, .ref (ad 2)), (1, .int a1), (2, .int a2)] := hl
  unfold f_X1_lendCoat at hf
  obtain ⟨H, eH⟩ : ∃ H, H = s.heap := ⟨_, rfl⟩
  obtain ⟨locs, eL⟩ : ∃ L : List Loc, L = [] := ⟨_, rfl⟩
  rw [← eH, ← eL] at hw ⊢
  clear eH eL
  refine lv_aload_n hx hb dX1_lendCoat_0 rfl (lv_at hl 0 rfl) ?_
  refine q_get hx hb hts hiX1 hown hw 2 xa_2 rfl 5 (by decide) (hts (.fieldLink RX1 27 "LaceRanks$Guests" "borrower" "[I") (by decide +kernel)) rfl dX1_lendCoat_1 ?_
  refine lv_iload_n hx hb dX1_lendCoat_4 rfl (lv_at hl 1 rfl) ?_
  refine lv_iload_n hx hb dX1_lendCoat_5 rfl (lv_at hl 2 rfl) ?_
  obtain ⟨K1, hK1, hf⟩ := nmE hf
  refine q_callSN (rest := []) (st1 := []) [.ref (ad 8), .int a1, .int a2] ⟨hx, hb, hml, hown, hts⟩ (c_X5_put (q0 := 8) xa_8 (xs_8.trans (congrArg (fun z => (xws cI cR ad O z)) hK1.symm))) ⟨va_cnB 3 hts gX1_lendCoat_X5_put_n40 rfl rfl rfl (nw_X1_40 hw.2.2.2.2) (hts (.initialized RX5) (by decide +kernel)) (by decide +kernel) ⟨Nat.le_of_ble_eq_true rfl, Nat.le_of_ble_eq_true rfl⟩, (hts (.static yX5_put) (by decide +kernel)), trivial⟩ hw rfl hl.1 rfl (Nat.le_of_ble_eq_true rfl) dX1_lendCoat_6 ⟨Nat.zero_le _, Nat.zero_le _⟩ rfl (fun H locs hw => ?_)
  refine lv_aload_n hx hb dX1_lendCoat_9 rfl (lv_at hl 0 rfl) ?_
  refine q_get hx hb hts hiX1 hown hw 2 xa_2 rfl 4 (by decide) (hts (.fieldLink RX1 24 "LaceRanks$Guests" "lender" "[I") (by decide +kernel)) rfl dX1_lendCoat_10 ?_
  refine lv_iload_n hx hb dX1_lendCoat_13 rfl (lv_at hl 2 rfl) ?_
  refine lv_iload_n hx hb dX1_lendCoat_14 rfl (lv_at hl 1 rfl) ?_
  obtain ⟨K2, hK2, hf⟩ := nmE hf
  refine q_callSN (rest := []) (st1 := []) [.ref (ad 7), .int a2, .int a1] ⟨hx, hb, hml, hown, hts⟩ (c_X5_put (q0 := 7) xa_7 (xs_7.trans (congrArg (fun z => (xws cI cR ad O z)) hK2.symm))) ⟨va_cnB 3 hts gX1_lendCoat_X5_put_n40 rfl rfl rfl (nw_X1_40 hw.2.2.2.2) (hts (.initialized RX5) (by decide +kernel)) (by decide +kernel) ⟨Nat.le_of_ble_eq_true rfl, Nat.le_of_ble_eq_true rfl⟩, (hts (.static yX5_put) (by decide +kernel)), trivial⟩ hw rfl hl.1 rfl (Nat.le_of_ble_eq_true rfl) dX1_lendCoat_15 ⟨Nat.zero_le _, Nat.zero_le _⟩ rfl (fun H locs hw => ?_)
  cases hf
  exact q_vret hx hb hr hlocks hw dX1_lendCoat_18

def f_X1_canReturnCoat (K : RK)  (a1 : Int32) : Option Int32 := nm (at_ 10 (K 4) a1) (fun r1 => (if r1 = (-1) then some 0 else bnd (f_X1_isIn K a1) (fun r2 => (if r2 = 0 then bnd (f_X1_isIn K r1) (fun r3 => (if r3 = 0 then some 1 else some 0)) else some 0))))
set_option maxHeartbeats 4000000 in
set_option maxRecDepth 100000 in
theorem c_X1_canReturnCoat {l : Launch} {D : va_G} {cI cR : ClassId} {ad : Nat → Nat} {A : Nat → Prop} {O : XO} {K : RK}  {a1 : Int32} {r : Int32}  (hf : f_X1_canReturnCoat K a1 = some r) : MC l yX1_canReturnCoat wsX1_canReturnCoat 2 42 D cI cR A [.ref (ad 2), .int a1] (xws cI cR ad O K) (some (.int r)) (xws cI cR ad O K) := by
  refine Met.ofW (cc := cX1_canReturnCoat) (maxL := 3) (ret := (some .boolean)) (by decide) rfl ?_
  intro p e s m args below meth c s₁ B hml hv
  obtain ⟨rfl, hw⟩ := q_start hv
  have hx := B.exec
  have hb := B.bytes
  have hr := B.returns
  have hts := atoms_spec (ws := wsX1_canReturnCoat) B.pre
  have hown : s.vm.findClass RX1 = some m.cls := findClass_of_methodNamed B.named
  have hlocks := B.notSynchronized
  have hiX1 : ∀ w ∈ wsX10, w ∈ wsX1_canReturnCoat := by decide +kernel
  have hl := lv_entry ([.ref (ad 2), .int a1]) (n := 3) (Nat.le_of_ble_eq_true rfl)
  rw [lg_entry_eq]
  generalize (lg_sl ([.ref (ad 2), .int a1]) ++ List.replicate (3 - (lg_sl ([.ref (ad 2), .int a1])).length) Slot.unset).toArray = ls at hl ⊢
  have hl : lv_has ls 3 [(0, .ref (ad 2)), (1, .int a1)] := hl
  unfold f_X1_canReturnCoat at hf
  obtain ⟨H, eH⟩ : ∃ H, H = s.heap := ⟨_, rfl⟩
  obtain ⟨locs, eL⟩ : ∃ L : List Loc, L = [] := ⟨_, rfl⟩
  rw [← eH, ← eL] at hw ⊢
  clear eH eL
  refine lv_aload_n hx hb dX1_canReturnCoat_0 rfl (lv_at hl 0 rfl) ?_
  refine q_get hx hb hts hiX1 hown hw 2 xa_2 rfl 4 (by decide) (hts (.fieldLink RX1 24 "LaceRanks$Guests" "lender" "[I") (by decide +kernel)) rfl dX1_canReturnCoat_1 ?_
  refine lv_iload_n hx hb dX1_canReturnCoat_4 rfl (lv_at hl 1 rfl) ?_
  obtain ⟨r1, hr1, hf⟩ := nmE hf
  refine q_callSN (rest := []) (st1 := [.int r1]) [.ref (ad 7), .int a1] ⟨hx, hb, hml, hown, hts⟩ (c_X5_at (q0 := 7) xa_7 hr1) ⟨va_cnB 2 hts gX1_canReturnCoat_X5_at_n48 rfl rfl rfl (nw_X1_48 hw.2.2.2.2) (hts (.initialized RX5) (by decide +kernel)) (by decide +kernel) ⟨Nat.le_of_ble_eq_true rfl, Nat.le_of_ble_eq_true rfl⟩, (hts (.static yX5_at) (by decide +kernel)), trivial⟩ hw rfl hl.1 rfl (Nat.le_of_ble_eq_true rfl) dX1_canReturnCoat_5 ⟨Nat.zero_le _, Nat.zero_le _⟩ rfl (fun H locs hw => ?_)
  refine lv_istore_n (lv' := [(2, .int r1), (0, .ref (ad 2)), (1, .int a1)]) hx hb dX1_canReturnCoat_8 rfl hl (by decide) rfl (fun ls hl => ?_)
  refine lv_iload_n hx hb dX1_canReturnCoat_9 rfl (lv_at hl 0 rfl) ?_
  refine lv_iconst (v := (-1)) hx hb dX1_canReturnCoat_10 (by decide) ?_
  refine lv_icmp_eq (tgt := 34) hx hb dX1_canReturnCoat_11 (by decide) (fun hc => ?_) (fun hc => ?_)
  · have hf := iteT hf hc
    refine lv_iconst (v := 0) hx hb dX1_canReturnCoat_34 (by decide) ?_
    cases hf
    exact q_zret hx hb hr nb_0 hlocks hw dX1_canReturnCoat_35
  · have hf := iteF hf hc
    refine lv_aload_n hx hb dX1_canReturnCoat_14 rfl (lv_at hl 1 rfl) ?_
    refine lv_iload_n hx hb dX1_canReturnCoat_15 rfl (lv_at hl 2 rfl) ?_
    obtain ⟨r2, hr2, hf⟩ := bndS hf
    refine q_callV (rest := []) (st1 := [.int r2]) [.int a1] ⟨hx, hb, hml, hown, hts⟩ (c_X1_isIn hr2) (cwV 1 hts gX1_canReturnCoat_X1_isIn rfl rfl rfl (by decide +kernel) ⟨Nat.le_of_ble_eq_true rfl, Nat.le_of_ble_eq_true rfl⟩) hw xa_2 rfl rfl hl.1 rfl (Nat.le_of_ble_eq_true rfl) dX1_canReturnCoat_16 ⟨Nat.zero_le _, Nat.zero_le _⟩ rfl (fun H locs hw => ?_)
    refine lv_if_ne (tgt := 34) hx hb dX1_canReturnCoat_19 (by decide) (fun hc => ?_) (fun hc => ?_)
    · have hf := iteF hf hc
      refine lv_iconst (v := 0) hx hb dX1_canReturnCoat_34 (by decide) ?_
      cases hf
      exact q_zret hx hb hr nb_0 hlocks hw dX1_canReturnCoat_35
    · have hf := iteT hf hc
      refine lv_aload_n hx hb dX1_canReturnCoat_22 rfl (lv_at hl 1 rfl) ?_
      refine lv_iload_n hx hb dX1_canReturnCoat_23 rfl (lv_at hl 0 rfl) ?_
      obtain ⟨r3, hr3, hf⟩ := bndS hf
      refine q_callV (rest := []) (st1 := [.int r3]) [.int r1] ⟨hx, hb, hml, hown, hts⟩ (c_X1_isIn hr3) (cwV 1 hts gX1_canReturnCoat_X1_isIn rfl rfl rfl (by decide +kernel) ⟨Nat.le_of_ble_eq_true rfl, Nat.le_of_ble_eq_true rfl⟩) hw xa_2 rfl rfl hl.1 rfl (Nat.le_of_ble_eq_true rfl) dX1_canReturnCoat_24 ⟨Nat.zero_le _, Nat.zero_le _⟩ rfl (fun H locs hw => ?_)
      refine lv_if_ne (tgt := 34) hx hb dX1_canReturnCoat_27 (by decide) (fun hc => ?_) (fun hc => ?_)
      · have hf := iteF hf hc
        refine lv_iconst (v := 0) hx hb dX1_canReturnCoat_34 (by decide) ?_
        cases hf
        exact q_zret hx hb hr nb_0 hlocks hw dX1_canReturnCoat_35
      · have hf := iteT hf hc
        refine lv_iconst (v := 1) hx hb dX1_canReturnCoat_30 (by decide) ?_
        refine lv_goto (tgt := 35) hx hb dX1_canReturnCoat_31 (by decide) ?_
        cases hf
        exact q_zret hx hb hr nb_1 hlocks hw dX1_canReturnCoat_35

def f_X1_returnCoat (K : RK)  (a1 : Int32) : Option (Int32 × RK) := nm (at_ 10 (K 4) a1) (fun r1 => nm (upR K 4 (put_ 10 (K 4) a1 (-1))) (fun K2 => nm (upR K2 5 (put_ 10 (K2 5) r1 (-1))) (fun K3 => some (r1, K3))))
set_option maxHeartbeats 4000000 in
set_option maxRecDepth 100000 in
theorem c_X1_returnCoat {l : Launch} {D : va_G} {cI cR : ClassId} {ad : Nat → Nat} {A : Nat → Prop} {O : XO} {K : RK} {K' : RK} {a1 : Int32} {r : Int32}  (hf : f_X1_returnCoat K a1 = some (r, K')) : MC l yX1_returnCoat wsX1_returnCoat 1 22 D cI cR A [.ref (ad 2), .int a1] (xws cI cR ad O K) (some (.int r)) (xws cI cR ad O K') := by
  refine Met.ofW (cc := cX1_returnCoat) (maxL := 3) (ret := (some .int)) (by decide) rfl ?_
  intro p e s m args below meth c s₁ B hml hv
  obtain ⟨rfl, hw⟩ := q_start hv
  have hx := B.exec
  have hb := B.bytes
  have hr := B.returns
  have hts := atoms_spec (ws := wsX1_returnCoat) B.pre
  have hown : s.vm.findClass RX1 = some m.cls := findClass_of_methodNamed B.named
  have hlocks := B.notSynchronized
  have hiX1 : ∀ w ∈ wsX10, w ∈ wsX1_returnCoat := by decide +kernel
  have hl := lv_entry ([.ref (ad 2), .int a1]) (n := 3) (Nat.le_of_ble_eq_true rfl)
  rw [lg_entry_eq]
  generalize (lg_sl ([.ref (ad 2), .int a1]) ++ List.replicate (3 - (lg_sl ([.ref (ad 2), .int a1])).length) Slot.unset).toArray = ls at hl ⊢
  have hl : lv_has ls 3 [(0, .ref (ad 2)), (1, .int a1)] := hl
  unfold f_X1_returnCoat at hf
  obtain ⟨H, eH⟩ : ∃ H, H = s.heap := ⟨_, rfl⟩
  obtain ⟨locs, eL⟩ : ∃ L : List Loc, L = [] := ⟨_, rfl⟩
  rw [← eH, ← eL] at hw ⊢
  clear eH eL
  refine lv_aload_n hx hb dX1_returnCoat_0 rfl (lv_at hl 0 rfl) ?_
  refine q_get hx hb hts hiX1 hown hw 2 xa_2 rfl 4 (by decide) (hts (.fieldLink RX1 24 "LaceRanks$Guests" "lender" "[I") (by decide +kernel)) rfl dX1_returnCoat_1 ?_
  refine lv_iload_n hx hb dX1_returnCoat_4 rfl (lv_at hl 1 rfl) ?_
  obtain ⟨r1, hr1, hf⟩ := nmE hf
  refine q_callSN (rest := []) (st1 := [.int r1]) [.ref (ad 7), .int a1] ⟨hx, hb, hml, hown, hts⟩ (c_X5_at (q0 := 7) xa_7 hr1) ⟨va_cnB 2 hts gX1_returnCoat_X5_at_n48 rfl rfl rfl (nw_X1_48 hw.2.2.2.2) (hts (.initialized RX5) (by decide +kernel)) (by decide +kernel) ⟨Nat.le_of_ble_eq_true rfl, Nat.le_of_ble_eq_true rfl⟩, (hts (.static yX5_at) (by decide +kernel)), trivial⟩ hw rfl hl.1 rfl (Nat.le_of_ble_eq_true rfl) dX1_returnCoat_5 ⟨Nat.zero_le _, Nat.zero_le _⟩ rfl (fun H locs hw => ?_)
  refine lv_istore_n (lv' := [(2, .int r1), (0, .ref (ad 2)), (1, .int a1)]) hx hb dX1_returnCoat_8 rfl hl (by decide) rfl (fun ls hl => ?_)
  refine lv_aload_n hx hb dX1_returnCoat_9 rfl (lv_at hl 1 rfl) ?_
  refine q_get hx hb hts hiX1 hown hw 2 xa_2 rfl 4 (by decide) (hts (.fieldLink RX1 24 "LaceRanks$Guests" "lender" "[I") (by decide +kernel)) rfl dX1_returnCoat_10 ?_
  refine lv_iload_n hx hb dX1_returnCoat_13 rfl (lv_at hl 2 rfl) ?_
  refine lv_iconst (v := (-1)) hx hb dX1_returnCoat_14 (by decide) ?_
  obtain ⟨K2, hK2, hf⟩ := nmE hf
  refine q_callSN (rest := []) (st1 := []) [.ref (ad 7), .int a1, .int (-1)] ⟨hx, hb, hml, hown, hts⟩ (c_X5_put (q0 := 7) xa_7 (xs_7.trans (congrArg (fun z => (xws cI cR ad O z)) hK2.symm))) ⟨va_cnB 3 hts gX1_returnCoat_X5_put_n40 rfl rfl rfl (nw_X1_40 hw.2.2.2.2) (hts (.initialized RX5) (by decide +kernel)) (by decide +kernel) ⟨Nat.le_of_ble_eq_true rfl, Nat.le_of_ble_eq_true rfl⟩, (hts (.static yX5_put) (by decide +kernel)), trivial⟩ hw rfl hl.1 rfl (Nat.le_of_ble_eq_true rfl) dX1_returnCoat_15 ⟨Nat.zero_le _, Nat.zero_le _⟩ rfl (fun H locs hw => ?_)
  refine lv_aload_n hx hb dX1_returnCoat_18 rfl (lv_at hl 1 rfl) ?_
  refine q_get hx hb hts hiX1 hown hw 2 xa_2 rfl 5 (by decide) (hts (.fieldLink RX1 27 "LaceRanks$Guests" "borrower" "[I") (by decide +kernel)) rfl dX1_returnCoat_19 ?_
  refine lv_iload_n hx hb dX1_returnCoat_22 rfl (lv_at hl 0 rfl) ?_
  refine lv_iconst (v := (-1)) hx hb dX1_returnCoat_23 (by decide) ?_
  obtain ⟨K3, hK3, hf⟩ := nmE hf
  refine q_callSN (rest := []) (st1 := []) [.ref (ad 8), .int r1, .int (-1)] ⟨hx, hb, hml, hown, hts⟩ (c_X5_put (q0 := 8) xa_8 (xs_8.trans (congrArg (fun z => (xws cI cR ad O z)) hK3.symm))) ⟨va_cnB 3 hts gX1_returnCoat_X5_put_n40 rfl rfl rfl (nw_X1_40 hw.2.2.2.2) (hts (.initialized RX5) (by decide +kernel)) (by decide +kernel) ⟨Nat.le_of_ble_eq_true rfl, Nat.le_of_ble_eq_true rfl⟩, (hts (.static yX5_put) (by decide +kernel)), trivial⟩ hw rfl hl.1 rfl (Nat.le_of_ble_eq_true rfl) dX1_returnCoat_24 ⟨Nat.zero_le _, Nat.zero_le _⟩ rfl (fun H locs hw => ?_)
  refine lv_iload_n hx hb dX1_returnCoat_27 rfl (lv_at hl 0 rfl) ?_
  cases hf
  exact q_iret hx hb hr hlocks hw dX1_returnCoat_28

def f_X1_payFromPurse (K : RK)  (a1 : Int32) (a2 : Int32) : Option (Int32 × RK) := nm (at_ 10 (K 1) a1) (fun r1 => nm (upR K 1 (put_ 10 (K 1) a1 (r1 - a2))) (fun K2 => some (a2, K2)))
set_option maxHeartbeats 4000000 in
set_option maxRecDepth 100000 in
theorem c_X1_payFromPurse {l : Launch} {D : va_G} {cI cR : ClassId} {ad : Nat → Nat} {A : Nat → Prop} {O : XO} {K : RK} {K' : RK} {a1 : Int32} {a2 : Int32} {r : Int32}  (hf : f_X1_payFromPurse K a1 a2 = some (r, K')) : MC l yX1_payFromPurse wsX1_payFromPurse 1 22 D cI cR A [.ref (ad 2), .int a1, .int a2] (xws cI cR ad O K) (some (.int r)) (xws cI cR ad O K') := by
  refine Met.ofW (cc := cX1_payFromPurse) (maxL := 3) (ret := (some .int)) (by decide) rfl ?_
  intro p e s m args below meth c s₁ B hml hv
  obtain ⟨rfl, hw⟩ := q_start hv
  have hx := B.exec
  have hb := B.bytes
  have hr := B.returns
  have hts := atoms_spec (ws := wsX1_payFromPurse) B.pre
  have hown : s.vm.findClass RX1 = some m.cls := findClass_of_methodNamed B.named
  have hlocks := B.notSynchronized
  have hiX1 : ∀ w ∈ wsX10, w ∈ wsX1_payFromPurse := by decide +kernel
  have hl := lv_entry ([.ref (ad 2), .int a1, .int a2]) (n := 3) (Nat.le_of_ble_eq_true rfl)
  rw [lg_entry_eq]
  generalize (lg_sl ([.ref (ad 2), .int a1, .int a2]) ++ List.replicate (3 - (lg_sl ([.ref (ad 2), .int a1, .int a2])).length) Slot.unset).toArray = ls at hl ⊢
  have hl : lv_has ls 3 [(0, .ref (ad 2)), (1, .int a1), (2, .int a2)] := hl
  unfold f_X1_payFromPurse at hf
  obtain ⟨H, eH⟩ : ∃ H, H = s.heap := ⟨_, rfl⟩
  obtain ⟨locs, eL⟩ : ∃ L : List Loc, L = [] := ⟨_, rfl⟩
  rw [← eH, ← eL] at hw ⊢
  clear eH eL
  refine lv_aload_n hx hb dX1_payFromPurse_0 rfl (lv_at hl 0 rfl) ?_
  refine q_get hx hb hts hiX1 hown hw 2 xa_2 rfl 1 (by decide) (hts (.fieldLink RX1 15 "LaceRanks$Guests" "purse" "[I") (by decide +kernel)) rfl dX1_payFromPurse_1 ?_
  refine lv_iload_n hx hb dX1_payFromPurse_4 rfl (lv_at hl 1 rfl) ?_
  refine lv_aload_n hx hb dX1_payFromPurse_5 rfl (lv_at hl 0 rfl) ?_
  refine q_get hx hb hts hiX1 hown hw 2 xa_2 rfl 1 (by decide) (hts (.fieldLink RX1 15 "LaceRanks$Guests" "purse" "[I") (by decide +kernel)) rfl dX1_payFromPurse_6 ?_
  refine lv_iload_n hx hb dX1_payFromPurse_9 rfl (lv_at hl 1 rfl) ?_
  obtain ⟨r1, hr1, hf⟩ := nmE hf
  refine q_callSN (rest := [.int a1, .ref (ad 4)]) (st1 := [.int r1, .int a1, .ref (ad 4)]) [.ref (ad 4), .int a1] ⟨hx, hb, hml, hown, hts⟩ (c_X5_at (q0 := 4) xa_4 hr1) ⟨va_cnB 2 hts gX1_payFromPurse_X5_at_n48 rfl rfl rfl (nw_X1_48 hw.2.2.2.2) (hts (.initialized RX5) (by decide +kernel)) (by decide +kernel) ⟨Nat.le_of_ble_eq_true rfl, Nat.le_of_ble_eq_true rfl⟩, (hts (.static yX5_at) (by decide +kernel)), trivial⟩ hw rfl hl.1 rfl (Nat.le_of_ble_eq_true rfl) dX1_payFromPurse_10 ⟨Nat.zero_le _, Nat.zero_le _⟩ rfl (fun H locs hw => ?_)
  refine lv_iload_n hx hb dX1_payFromPurse_13 rfl (lv_at hl 2 rfl) ?_
  refine lv_isub hx hb dX1_payFromPurse_14 ?_
  obtain ⟨K2, hK2, hf⟩ := nmE hf
  refine q_callSN (rest := []) (st1 := []) [.ref (ad 4), .int a1, .int (r1 - a2)] ⟨hx, hb, hml, hown, hts⟩ (c_X5_put (q0 := 4) xa_4 (xs_4.trans (congrArg (fun z => (xws cI cR ad O z)) hK2.symm))) ⟨va_cnB 3 hts gX1_payFromPurse_X5_put_n40 rfl rfl rfl (nw_X1_40 hw.2.2.2.2) (hts (.initialized RX5) (by decide +kernel)) (by decide +kernel) ⟨Nat.le_of_ble_eq_true rfl, Nat.le_of_ble_eq_true rfl⟩, (hts (.static yX5_put) (by decide +kernel)), trivial⟩ hw rfl hl.1 rfl (Nat.le_of_ble_eq_true rfl) dX1_payFromPurse_15 ⟨Nat.zero_le _, Nat.zero_le _⟩ rfl (fun H locs hw => ?_)
  refine lv_iload_n hx hb dX1_payFromPurse_18 rfl (lv_at hl 2 rfl) ?_
  cases hf
  exact q_iret hx hb hr hlocks hw dX1_payFromPurse_19

def f_X1_howManyMasked_b29 (k4 : Int32 → Int32 → Option Int32) (K : RK)  (x2 : Int32) (y0 : Int32) (y1 : Int32) : Option Int32 := nm (x2 + 1) (fun v1 => k4 (y1 + y0) v1)
def f_X1_howManyMasked_l4  (K : RK)  : Nat → Int32 → Int32 → Option Int32
  | 0, _, _ => none
  | n4 + 1, x1, x2 => (if (K 12 0) ≤ x2 then some x1 else nm (at_ 10 (K 6) x2) (fun r1 => (if r1 ≤ 0 then f_X1_howManyMasked_b29 (f_X1_howManyMasked_l4 K n4) K x2 0 x1 else f_X1_howManyMasked_b29 (f_X1_howManyMasked_l4 K n4) K x2 1 x1)))
def f_X1_howManyMasked (K : RK)   : Option Int32 := f_X1_howManyMasked_l4 K fuelN 0 0
set_option maxHeartbeats 4000000 in
set_option maxRecDepth 100000 in
theorem c_X1_howManyMasked {l : Launch} {D : va_G} {cI cR : ClassId} {ad : Nat → Nat} {A : Nat → Prop} {O : XO} {K : RK}   {r : Int32}  (hf : f_X1_howManyMasked K = some r) : MC l yX1_howManyMasked wsX1_howManyMasked 1 21 D cI cR A [.ref (ad 2)] (xws cI cR ad O K) (some (.int r)) (xws cI cR ad O K) := by
  refine Met.ofW (cc := cX1_howManyMasked) (maxL := 3) (ret := (some .int)) (by decide) rfl ?_
  intro p e s m args below meth c s₁ B hml hv
  obtain ⟨rfl, hw⟩ := q_start hv
  have hx := B.exec
  have hb := B.bytes
  have hr := B.returns
  have hts := atoms_spec (ws := wsX1_howManyMasked) B.pre
  have hown : s.vm.findClass RX1 = some m.cls := findClass_of_methodNamed B.named
  have hlocks := B.notSynchronized
  have hiX1 : ∀ w ∈ wsX10, w ∈ wsX1_howManyMasked := by decide +kernel
  have hl := lv_entry ([.ref (ad 2)]) (n := 3) (Nat.le_of_ble_eq_true rfl)
  rw [lg_entry_eq]
  generalize (lg_sl ([.ref (ad 2)]) ++ List.replicate (3 - (lg_sl ([.ref (ad 2)])).length) Slot.unset).toArray = ls at hl ⊢
  have hl : lv_has ls 3 [(0, .ref (ad 2))] := hl
  unfold f_X1_howManyMasked at hf
  obtain ⟨H, eH⟩ : ∃ H, H = s.heap := ⟨_, rfl⟩
  obtain ⟨locs, eL⟩ : ∃ L : List Loc, L = [] := ⟨_, rfl⟩
  rw [← eH, ← eL] at hw ⊢
  clear eH eL
  have L4 : ∀ (n4 : Nat) (x1 : Int32) (x2 : Int32) (H : Heap) (locs : List Loc) (ls : Array Slot), f_X1_howManyMasked_l4 K n4 x1 x2 = some r → WH D cI cR A (xws cI cR ad O K) s H locs → lv_has ls 3 [(0, .ref (ad 2)), (1, .int x1), (2, .int x2)] → W p l e (headSpec wsX1_howManyMasked ({ frames := 1, cells := 0, slots := 0, locals := 21 })).room s m ([.ref (ad 2)] : List Value).toArray below meth c H locs 0 0 (MQ below (QV (some (.int r)) D A (xws cI cR ad O K)) (([.ref (ad 2)] : List Value)).toArray s 0 0 A) (F0 m 4 ls []) := by
    intro n4
    induction n4 with
    | zero => intro x1 x2 H locs ls hf; cases hf
    | succ n4 ih =>
      have ih4 := ih
      have B29 : ∀ (x2 : Int32) (y0 : Int32) (y1 : Int32) (H : Heap) (locs : List Loc) (ls : Array Slot), f_X1_howManyMasked_b29 (f_X1_howManyMasked_l4 K n4) K x2 y0 y1 = some r → WH D cI cR A (xws cI cR ad O K) s H locs → lv_has ls 3 [(0, .ref (ad 2)), (2, .int x2)] → W p l e (headSpec wsX1_howManyMasked ({ frames := 1, cells := 0, slots := 0, locals := 21 })).room s m ([.ref (ad 2)] : List Value).toArray below meth c H locs 0 0 (MQ below (QV (some (.int r)) D A (xws cI cR ad O K)) (([.ref (ad 2)] : List Value)).toArray s 0 0 A) (F0 m 29 ls [.int y0, .int y1]) := by
        intro x2 y0 y1 H locs ls hf hw hl
        unfold f_X1_howManyMasked_b29 at hf
        refine lv_iadd hx hb dX1_howManyMasked_29 ?_
        refine lv_istore_n (lv' := [(1, .int (y1 + y0)), (0, .ref (ad 2)), (2, .int x2)]) hx hb dX1_howManyMasked_30 rfl hl (by decide) rfl (fun ls hl => ?_)
        obtain ⟨v1, hv1, hf⟩ := nmE hf
        refine lv_iinc (v := v1) (lv' := [(2, .int v1), (1, .int (y1 + y0)), (0, .ref (ad 2))]) hx hb dX1_howManyMasked_31 hl (k := 2) rfl (by rw [hv1]; rfl) (by decide) rfl (fun ls hl => ?_)
        refine lv_goto (tgt := 4) hx hb dX1_howManyMasked_34 (by decide) ?_
        exact ih4 (y1 + y0) v1 H locs ls hf hw (lv_sub hl [2, 1, 0] rfl)
      intro x1 x2 H locs ls hf hw hl
      simp only [f_X1_howManyMasked_l4] at hf
      refine lv_iload_n hx hb dX1_howManyMasked_4 rfl (lv_at hl 2 rfl) ?_
      refine lv_aload_n hx hb dX1_howManyMasked_5 rfl (lv_at hl 0 rfl) ?_
      refine q_get hx hb hts hiX1 hown hw 2 xa_2 rfl 8 (by decide) (hts (.fieldLink RX1 36 "LaceRanks$Guests" "size" "I") (by decide +kernel)) rfl dX1_howManyMasked_6 ?_
      refine lv_icmp_ge (tgt := 37) hx hb dX1_howManyMasked_9 (by decide) (fun hc => ?_) (fun hc => ?_)
      · have hf := iteT hf hc
        refine lv_iload_n hx hb dX1_howManyMasked_37 rfl (lv_at hl 1 rfl) ?_
        cases hf
        exact q_iret hx hb hr hlocks hw dX1_howManyMasked_38
      · have hf := iteF hf hc
        refine lv_iload_n hx hb dX1_howManyMasked_12 rfl (lv_at hl 1 rfl) ?_
        refine lv_aload_n hx hb dX1_howManyMasked_13 rfl (lv_at hl 0 rfl) ?_
        refine q_get hx hb hts hiX1 hown hw 2 xa_2 rfl 6 (by decide) (hts (.fieldLink RX1 30 "LaceRanks$Guests" "maskNights" "[I") (by decide +kernel)) rfl dX1_howManyMasked_14 ?_
        refine lv_iload_n hx hb dX1_howManyMasked_17 rfl (lv_at hl 2 rfl) ?_
        obtain ⟨r1, hr1, hf⟩ := nmE hf
        refine q_callSN (rest := [.int x1]) (st1 := [.int r1, .int x1]) [.ref (ad 9), .int x2] ⟨hx, hb, hml, hown, hts⟩ (c_X5_at (q0 := 9) xa_9 hr1) ⟨va_cnB 2 hts gX1_howManyMasked_X5_at_n48 rfl rfl rfl (nw_X1_48 hw.2.2.2.2) (hts (.initialized RX5) (by decide +kernel)) (by decide +kernel) ⟨Nat.le_of_ble_eq_true rfl, Nat.le_of_ble_eq_true rfl⟩, (hts (.static yX5_at) (by decide +kernel)), trivial⟩ hw rfl hl.1 rfl (Nat.le_of_ble_eq_true rfl) dX1_howManyMasked_18 ⟨Nat.zero_le _, Nat.zero_le _⟩ rfl (fun H locs hw => ?_)
        refine lv_if_le (tgt := 28) hx hb dX1_howManyMasked_21 (by decide) (fun hc => ?_) (fun hc => ?_)
        · have hf := iteT hf hc
          refine lv_iconst (v := 0) hx hb dX1_howManyMasked_28 (by decide) ?_
          exact B29 x2 0 x1 H locs ls hf hw (lv_sub hl [0, 2] rfl)
        · have hf := iteF hf hc
          refine lv_iconst (v := 1) hx hb dX1_howManyMasked_24 (by decide) ?_
          refine lv_goto (tgt := 29) hx hb dX1_howManyMasked_25 (by decide) ?_
          exact B29 x2 1 x1 H locs ls hf hw (lv_sub hl [0, 2] rfl)
  refine lv_iconst (v := 0) hx hb dX1_howManyMasked_0 (by decide) ?_
  refine lv_istore_n (lv' := [(1, .int 0), (0, .ref (ad 2))]) hx hb dX1_howManyMasked_1 rfl hl (by decide) rfl (fun ls hl => ?_)
  refine lv_iconst (v := 0) hx hb dX1_howManyMasked_2 (by decide) ?_
  refine lv_istore_n (lv' := [(2, .int 0), (1, .int 0), (0, .ref (ad 2))]) hx hb dX1_howManyMasked_3 rfl hl (by decide) rfl (fun ls hl => ?_)
  exact L4 fuelN 0 0 H locs ls hf hw (lv_sub hl [2, 1, 0] rfl)

def f_X1_bitsOfInside_b28 (k4 : Int32 → Int32 → Option Int32) (K : RK)  (x2 : Int32) (y0 : Int32) (y1 : Int32) : Option Int32 := nm (x2 + 1) (fun v1 => k4 (y1 ||| y0) v1)
def f_X1_bitsOfInside_l4  (K : RK)  : Nat → Int32 → Int32 → Option Int32
  | 0, _, _ => none
  | n4 + 1, x1, x2 => (if (K 12 0) ≤ x2 then some x1 else bnd (f_X1_isIn K x2) (fun r1 => (if r1 = 0 then f_X1_bitsOfInside_b28 (f_X1_bitsOfInside_l4 K n4) K x2 0 x1 else f_X1_bitsOfInside_b28 (f_X1_bitsOfInside_l4 K n4) K x2 (1 <<< (x2 &&& 31)) x1)))
def f_X1_bitsOfInside (K : RK)   : Option Int32 := f_X1_bitsOfInside_l4 K fuelN 0 0
set_option maxHeartbeats 4000000 in
set_option maxRecDepth 100000 in
theorem c_X1_bitsOfInside {l : Launch} {D : va_G} {cI cR : ClassId} {ad : Nat → Nat} {A : Nat → Prop} {O : XO} {K : RK}   {r : Int32}  (hf : f_X1_bitsOfInside K = some r) : MC l yX1_bitsOfInside wsX1_bitsOfInside 2 42 D cI cR A [.ref (ad 2)] (xws cI cR ad O K) (some (.int r)) (xws cI cR ad O K) := by
  refine Met.ofW (cc := cX1_bitsOfInside) (maxL := 3) (ret := (some .int)) (by decide) rfl ?_
  intro p e s m args below meth c s₁ B hml hv
  obtain ⟨rfl, hw⟩ := q_start hv
  have hx := B.exec
  have hb := B.bytes
  have hr := B.returns
  have hts := atoms_spec (ws := wsX1_bitsOfInside) B.pre
  have hown : s.vm.findClass RX1 = some m.cls := findClass_of_methodNamed B.named
  have hlocks := B.notSynchronized
  have hiX1 : ∀ w ∈ wsX10, w ∈ wsX1_bitsOfInside := by decide +kernel
  have hl := lv_entry ([.ref (ad 2)]) (n := 3) (Nat.le_of_ble_eq_true rfl)
  rw [lg_entry_eq]
  generalize (lg_sl ([.ref (ad 2)]) ++ List.replicate (3 - (lg_sl ([.ref (ad 2)])).length) Slot.unset).toArray = ls at hl ⊢
  have hl : lv_has ls 3 [(0, .ref (ad 2))] := hl
  unfold f_X1_bitsOfInside at hf
  obtain ⟨H, eH⟩ : ∃ H, H = s.heap := ⟨_, rfl⟩
  obtain ⟨locs, eL⟩ : ∃ L : List Loc, L = [] := ⟨_, rfl⟩
  rw [← eH, ← eL] at hw ⊢
  clear eH eL
  have L4 : ∀ (n4 : Nat) (x1 : Int32) (x2 : Int32) (H : Heap) (locs : List Loc) (ls : Array Slot), f_X1_bitsOfInside_l4 K n4 x1 x2 = some r → WH D cI cR A (xws cI cR ad O K) s H locs → lv_has ls 3 [(0, .ref (ad 2)), (1, .int x1), (2, .int x2)] → W p l e (headSpec wsX1_bitsOfInside ({ frames := 2, cells := 0, slots := 0, locals := 42 })).room s m ([.ref (ad 2)] : List Value).toArray below meth c H locs 0 0 (MQ below (QV (some (.int r)) D A (xws cI cR ad O K)) (([.ref (ad 2)] : List Value)).toArray s 0 0 A) (F0 m 4 ls []) := by
    intro n4
    induction n4 with
    | zero => intro x1 x2 H locs ls hf; cases hf
    | succ n4 ih =>
      have ih4 := ih
      have B28 : ∀ (x2 : Int32) (y0 : Int32) (y1 : Int32) (H : Heap) (locs : List Loc) (ls : Array Slot), f_X1_bitsOfInside_b28 (f_X1_bitsOfInside_l4 K n4) K x2 y0 y1 = some r → WH D cI cR A (xws cI cR ad O K) s H locs → lv_has ls 3 [(0, .ref (ad 2)), (2, .int x2)] → W p l e (headSpec wsX1_bitsOfInside ({ frames := 2, cells := 0, slots := 0, locals := 42 })).room s m ([.ref (ad 2)] : List Value).toArray below meth c H locs 0 0 (MQ below (QV (some (.int r)) D A (xws cI cR ad O K)) (([.ref (ad 2)] : List Value)).toArray s 0 0 A) (F0 m 28 ls [.int y0, .int y1]) := by
        intro x2 y0 y1 H locs ls hf hw hl
        unfold f_X1_bitsOfInside_b28 at hf
        refine lv_ior hx hb dX1_bitsOfInside_28 ?_
        refine lv_istore_n (lv' := [(1, .int (y1 ||| y0)), (0, .ref (ad 2)), (2, .int x2)]) hx hb dX1_bitsOfInside_29 rfl hl (by decide) rfl (fun ls hl => ?_)
        obtain ⟨v1, hv1, hf⟩ := nmE hf
        refine lv_iinc (v := v1) (lv' := [(2, .int v1), (1, .int (y1 ||| y0)), (0, .ref (ad 2))]) hx hb dX1_bitsOfInside_30 hl (k := 2) rfl (by rw [hv1]; rfl) (by decide) rfl (fun ls hl => ?_)
        refine lv_goto (tgt := 4) hx hb dX1_bitsOfInside_33 (by decide) ?_
        exact ih4 (y1 ||| y0) v1 H locs ls hf hw (lv_sub hl [2, 1, 0] rfl)
      intro x1 x2 H locs ls hf hw hl
      simp only [f_X1_bitsOfInside_l4] at hf
      refine lv_iload_n hx hb dX1_bitsOfInside_4 rfl (lv_at hl 2 rfl) ?_
      refine lv_aload_n hx hb dX1_bitsOfInside_5 rfl (lv_at hl 0 rfl) ?_
      refine q_get hx hb hts hiX1 hown hw 2 xa_2 rfl 8 (by decide) (hts (.fieldLink RX1 36 "LaceRanks$Guests" "size" "I") (by decide +kernel)) rfl dX1_bitsOfInside_6 ?_
      refine lv_icmp_ge (tgt := 36) hx hb dX1_bitsOfInside_9 (by decide) (fun hc => ?_) (fun hc => ?_)
      · have hf := iteT hf hc
        refine lv_iload_n hx hb dX1_bitsOfInside_36 rfl (lv_at hl 1 rfl) ?_
        cases hf
        exact q_iret hx hb hr hlocks hw dX1_bitsOfInside_37
      · have hf := iteF hf hc
        refine lv_iload_n hx hb dX1_bitsOfInside_12 rfl (lv_at hl 1 rfl) ?_
        refine lv_aload_n hx hb dX1_bitsOfInside_13 rfl (lv_at hl 0 rfl) ?_
        refine lv_iload_n hx hb dX1_bitsOfInside_14 rfl (lv_at hl 2 rfl) ?_
        obtain ⟨r1, hr1, hf⟩ := bndS hf
        refine q_callV (rest := [.int x1]) (st1 := [.int r1, .int x1]) [.int x2] ⟨hx, hb, hml, hown, hts⟩ (c_X1_isIn hr1) (cwV 1 hts gX1_bitsOfInside_X1_isIn rfl rfl rfl (by decide +kernel) ⟨Nat.le_of_ble_eq_true rfl, Nat.le_of_ble_eq_true rfl⟩) hw xa_2 rfl rfl hl.1 rfl (Nat.le_of_ble_eq_true rfl) dX1_bitsOfInside_15 ⟨Nat.zero_le _, Nat.zero_le _⟩ rfl (fun H locs hw => ?_)
        refine lv_if_eq (tgt := 27) hx hb dX1_bitsOfInside_18 (by decide) (fun hc => ?_) (fun hc => ?_)
        · have hf := iteT hf hc
          refine lv_iconst (v := 0) hx hb dX1_bitsOfInside_27 (by decide) ?_
          exact B28 x2 0 x1 H locs ls hf hw (lv_sub hl [0, 2] rfl)
        · have hf := iteF hf hc
          refine lv_iconst (v := 1) hx hb dX1_bitsOfInside_21 (by decide) ?_
          refine lv_iload_n hx hb dX1_bitsOfInside_22 rfl (lv_at hl 2 rfl) ?_
          refine lv_ishl hx hb dX1_bitsOfInside_23 ?_
          refine lv_goto (tgt := 28) hx hb dX1_bitsOfInside_24 (by decide) ?_
          exact B28 x2 (1 <<< (x2 &&& 31)) x1 H locs ls hf hw (lv_sub hl [0, 2] rfl)
  refine lv_iconst (v := 0) hx hb dX1_bitsOfInside_0 (by decide) ?_
  refine lv_istore_n (lv' := [(1, .int 0), (0, .ref (ad 2))]) hx hb dX1_bitsOfInside_1 rfl hl (by decide) rfl (fun ls hl => ?_)
  refine lv_iconst (v := 0) hx hb dX1_bitsOfInside_2 (by decide) ?_
  refine lv_istore_n (lv' := [(2, .int 0), (1, .int 0), (0, .ref (ad 2))]) hx hb dX1_bitsOfInside_3 rfl hl (by decide) rfl (fun ls hl => ?_)
  exact L4 fuelN 0 0 H locs ls hf hw (lv_sub hl [2, 1, 0] rfl)

def f_X1_passNight_l2    : Nat → RK → Int32 → Option RK
  | 0, _, _ => none
  | n2 + 1, K, x1 => (if (K 12 0) ≤ x1 then some K else nm (upR K 7 (put_ 10 (K 7) x1 0)) (fun K1 => nm (at_ 10 (K1 6) x1) (fun r2 => nm (imax (r2 - 1) 0) (fun r3 => nm (upR K1 6 (put_ 10 (K1 6) x1 r3)) (fun K4 => nm (x1 + 1) (fun v5 => (f_X1_passNight_l2 n2) K4 v5))))))
def f_X1_passNight (K : RK)   : Option RK := f_X1_passNight_l2 fuelN K 0
set_option maxHeartbeats 4000000 in
set_option maxRecDepth 100000 in
theorem c_X1_passNight {l : Launch} {D : va_G} {cI cR : ClassId} {ad : Nat → Nat} {A : Nat → Prop} {O : XO} {K : RK} {K' : RK}    (hf : f_X1_passNight K = some K') : MC l yX1_passNight wsX1_passNight 1 22 D cI cR A [.ref (ad 2)] (xws cI cR ad O K) none (xws cI cR ad O K') := by
  refine Met.ofW (cc := cX1_passNight) (maxL := 2) (ret := none) (by decide) rfl ?_
  intro p e s m args below meth c s₁ B hml hv
  obtain ⟨rfl, hw⟩ := q_start hv
  have hx := B.exec
  have hb := B.bytes
  have hr := B.returns
  have hts := atoms_spec (ws := wsX1_passNight) B.pre
  have hown : s.vm.findClass RX1 = some m.cls := findClass_of_methodNamed B.named
  have hlocks := B.notSynchronized
  have hiX1 : ∀ w ∈ wsX10, w ∈ wsX1_passNight := by decide +kernel
  have hl := lv_entry ([.ref (ad 2)]) (n := 2) (Nat.le_of_ble_eq_true rfl)
  rw [lg_entry_eq]
  generalize (lg_sl ([.ref (ad 2)]) ++ List.replicate (2 - (lg_sl ([.ref (ad 2)])).length) Slot.unset).toArray = ls at hl ⊢
  have hl : lv_has ls 2 [(0, .ref (ad 2))] := hl
  unfold f_X1_passNight at hf
  obtain ⟨H, eH⟩ : ∃ H, H = s.heap := ⟨_, rfl⟩
  obtain ⟨locs, eL⟩ : ∃ L : List Loc, L = [] := ⟨_, rfl⟩
  rw [← eH, ← eL] at hw ⊢
  clear eH eL
  have L2 : ∀ (n2 : Nat) (K : RK) (x1 : Int32) (H : Heap) (locs : List Loc) (ls : Array Slot), f_X1_passNight_l2 n2 K x1 = some K' → WH D cI cR A (xws cI cR ad O K) s H locs → lv_has ls 2 [(0, .ref (ad 2)), (1, .int x1)] → W p l e (headSpec wsX1_passNight ({ frames := 1, cells := 0, slots := 0, locals := 22 })).room s m ([.ref (ad 2)] : List Value).toArray below meth c H locs 0 0 (MQ below (QV none D A (xws cI cR ad O K')) (([.ref (ad 2)] : List Value)).toArray s 0 0 A) (F0 m 2 ls []) := by
    intro n2
    induction n2 with
    | zero => intro K x1 H locs ls hf; cases hf
    | succ n2 ih =>
      have ih2 := ih
      intro K x1 H locs ls hf hw hl
      simp only [f_X1_passNight_l2] at hf
      refine lv_iload_n hx hb dX1_passNight_2 rfl (lv_at hl 1 rfl) ?_
      refine lv_aload_n hx hb dX1_passNight_3 rfl (lv_at hl 0 rfl) ?_
      refine q_get hx hb hts hiX1 hown hw 2 xa_2 rfl 8 (by decide) (hts (.fieldLink RX1 36 "LaceRanks$Guests" "size" "I") (by decide +kernel)) rfl dX1_passNight_4 ?_
      refine lv_icmp_ge (tgt := 47) hx hb dX1_passNight_7 (by decide) (fun hc => ?_) (fun hc => ?_)
      · have hf := iteT hf hc
        cases hf
        exact q_vret hx hb hr hlocks hw dX1_passNight_47
      · have hf := iteF hf hc
        refine lv_aload_n hx hb dX1_passNight_10 rfl (lv_at hl 0 rfl) ?_
        refine q_get hx hb hts hiX1 hown hw 2 xa_2 rfl 7 (by decide) (hts (.fieldLink RX1 33 "LaceRanks$Guests" "inside" "[I") (by decide +kernel)) rfl dX1_passNight_11 ?_
        refine lv_iload_n hx hb dX1_passNight_14 rfl (lv_at hl 1 rfl) ?_
        refine lv_iconst (v := 0) hx hb dX1_passNight_15 (by decide) ?_
        obtain ⟨K1, hK1, hf⟩ := nmE hf
        refine q_callSN (rest := []) (st1 := []) [.ref (ad 10), .int x1, .int 0] ⟨hx, hb, hml, hown, hts⟩ (c_X5_put (q0 := 10) xa_10 (xs_10.trans (congrArg (fun z => (xws cI cR ad O z)) hK1.symm))) ⟨va_cnB 3 hts gX1_passNight_X5_put_n40 rfl rfl rfl (nw_X1_40 hw.2.2.2.2) (hts (.initialized RX5) (by decide +kernel)) (by decide +kernel) ⟨Nat.le_of_ble_eq_true rfl, Nat.le_of_ble_eq_true rfl⟩, (hts (.static yX5_put) (by decide +kernel)), trivial⟩ hw rfl hl.1 rfl (Nat.le_of_ble_eq_true rfl) dX1_passNight_16 ⟨Nat.zero_le _, Nat.zero_le _⟩ rfl (fun H locs hw => ?_)
        refine lv_aload_n hx hb dX1_passNight_19 rfl (lv_at hl 0 rfl) ?_
        refine q_get hx hb hts hiX1 hown hw 2 xa_2 rfl 6 (by decide) (hts (.fieldLink RX1 30 "LaceRanks$Guests" "maskNights" "[I") (by decide +kernel)) rfl dX1_passNight_20 ?_
        refine lv_iload_n hx hb dX1_passNight_23 rfl (lv_at hl 1 rfl) ?_
        refine lv_aload_n hx hb dX1_passNight_24 rfl (lv_at hl 0 rfl) ?_
        refine q_get hx hb hts hiX1 hown hw 2 xa_2 rfl 6 (by decide) (hts (.fieldLink RX1 30 "LaceRanks$Guests" "maskNights" "[I") (by decide +kernel)) rfl dX1_passNight_25 ?_
        refine lv_iload_n hx hb dX1_passNight_28 rfl (lv_at hl 1 rfl) ?_
        obtain ⟨r2, hr2, hf⟩ := nmE hf
        refine q_callSN (rest := [.int x1, .ref (ad 9)]) (st1 := [.int r2, .int x1, .ref (ad 9)]) [.ref (ad 9), .int x1] ⟨hx, hb, hml, hown, hts⟩ (c_X5_at (q0 := 9) xa_9 hr2) ⟨va_cnB 2 hts gX1_passNight_X5_at_n48 rfl rfl rfl (nw_X1_48 hw.2.2.2.2) (hts (.initialized RX5) (by decide +kernel)) (by decide +kernel) ⟨Nat.le_of_ble_eq_true rfl, Nat.le_of_ble_eq_true rfl⟩, (hts (.static yX5_at) (by decide +kernel)), trivial⟩ hw rfl hl.1 rfl (Nat.le_of_ble_eq_true rfl) dX1_passNight_29 ⟨Nat.zero_le _, Nat.zero_le _⟩ rfl (fun H locs hw => ?_)
        refine lv_iconst (v := 1) hx hb dX1_passNight_32 (by decide) ?_
        refine lv_isub hx hb dX1_passNight_33 ?_
        refine lv_iconst (v := 0) hx hb dX1_passNight_34 (by decide) ?_
        obtain ⟨r3, hr3, hf⟩ := nmE hf
        refine va_mmax hx hb (hml.trans hl.1.symm) hown (hts (.methodLink RX1 64 Lib.Math.max.name) (by decide +kernel)) (hts (.static Lib.Math.max.name) (by decide +kernel)) (hts (.initialized "java/lang/Math") (by decide +kernel)) (hts (.code Lib.Math.max.name Lib.Math.max.code 2 (some .int)) (by decide +kernel)) (Nat.le_of_ble_eq_true rfl) (Nat.le_of_ble_eq_true rfl) (Nat.le_of_ble_eq_true rfl) (Nat.le_of_ble_eq_true rfl) dX1_passNight_35 ?_
        refine q_is hr3 ?_
        obtain ⟨K4, hK4, hf⟩ := nmE hf
        refine q_callSN (rest := []) (st1 := []) [.ref (ad 9), .int x1, .int r3] ⟨hx, hb, hml, hown, hts⟩ (c_X5_put (q0 := 9) xa_9 (xs_9.trans (congrArg (fun z => (xws cI cR ad O z)) hK4.symm))) ⟨va_cnB 3 hts gX1_passNight_X5_put_n40 rfl rfl rfl (nw_X1_40 hw.2.2.2.2) (hts (.initialized RX5) (by decide +kernel)) (by decide +kernel) ⟨Nat.le_of_ble_eq_true rfl, Nat.le_of_ble_eq_true rfl⟩, (hts (.static yX5_put) (by decide +kernel)), trivial⟩ hw rfl hl.1 rfl (Nat.le_of_ble_eq_true rfl) dX1_passNight_38 ⟨Nat.zero_le _, Nat.zero_le _⟩ rfl (fun H locs hw => ?_)
        obtain ⟨v5, hv5, hf⟩ := nmE hf
        refine lv_iinc (v := v5) (lv' := [(1, .int v5), (0, .ref (ad 2))]) hx hb dX1_passNight_41 hl (k := 1) rfl (by rw [hv5]; rfl) (by decide) rfl (fun ls hl => ?_)
        refine lv_goto (tgt := 2) hx hb dX1_passNight_44 (by decide) ?_
        exact ih2 K4 v5 H locs ls hf hw (lv_sub hl [1, 0] rfl)
  refine lv_iconst (v := 0) hx hb dX1_passNight_0 (by decide) ?_
  refine lv_istore_n (lv' := [(1, .int 0), (0, .ref (ad 2))]) hx hb dX1_passNight_1 rfl hl (by decide) rfl (fun ls hl => ?_)
  exact L2 fuelN K 0 H locs ls hf hw (lv_sub hl [1, 0] rfl)

def f_X3_standingAt (K : RK)  (a1 : Int32) (a2 : Int32) : Option Int32 := nm (at_ 30 (K 8) ((a1 * 10) + a2)) (fun r1 => some r1)
set_option maxHeartbeats 4000000 in
set_option maxRecDepth 100000 in
theorem c_X3_standingAt {l : Launch} {D : va_G} {cI cR : ClassId} {ad : Nat → Nat} {A : Nat → Prop} {O : XO} {K : RK}  {a1 : Int32} {a2 : Int32} {r : Int32}  (hf : f_X3_standingAt K a1 a2 = some r) : MC l yX3_standingAt wsX3_standingAt 1 21 D cI cR A [.ref (ad 11), .int a1, .int a2] (xws cI cR ad O K) (some (.int r)) (xws cI cR ad O K) := by
  refine Met.ofW (cc := cX3_standingAt) (maxL := 3) (ret := (some .int)) (by decide) rfl ?_
  intro p e s m args below meth c s₁ B hml hv
  obtain ⟨rfl, hw⟩ := q_start hv
  have hx := B.exec
  have hb := B.bytes
  have hr := B.returns
  have hts := atoms_spec (ws := wsX3_standingAt) B.pre
  have hown : s.vm.findClass RX3 = some m.cls := findClass_of_methodNamed B.named
  have hlocks := B.notSynchronized
  have hiX3 : ∀ w ∈ wsX30, w ∈ wsX3_standingAt := by decide +kernel
  have hl := lv_entry ([.ref (ad 11), .int a1, .int a2]) (n := 3) (Nat.le_of_ble_eq_true rfl)
  rw [lg_entry_eq]
  generalize (lg_sl ([.ref (ad 11), .int a1, .int a2]) ++ List.replicate (3 - (lg_sl ([.ref (ad 11), .int a1, .int a2])).length) Slot.unset).toArray = ls at hl ⊢
  have hl : lv_has ls 3 [(0, .ref (ad 11)), (1, .int a1), (2, .int a2)] := hl
  unfold f_X3_standingAt at hf
  obtain ⟨H, eH⟩ : ∃ H, H = s.heap := ⟨_, rfl⟩
  obtain ⟨locs, eL⟩ : ∃ L : List Loc, L = [] := ⟨_, rfl⟩
  rw [← eH, ← eL] at hw ⊢
  clear eH eL
  refine lv_aload_n hx hb dX3_standingAt_0 rfl (lv_at hl 0 rfl) ?_
  refine q_get hx hb hts hiX3 hown hw 11 xa_11 rfl 0 (by decide) (hts (.fieldLink RX3 9 "LaceRanks$Lines" "places" "[I") (by decide +kernel)) rfl dX3_standingAt_1 ?_
  refine lv_iload_n hx hb dX3_standingAt_4 rfl (lv_at hl 1 rfl) ?_
  refine lv_bipush (v := 10) hx hb dX3_standingAt_5 (by decide) ?_
  refine lv_imul hx hb dX3_standingAt_7 ?_
  refine lv_iload_n hx hb dX3_standingAt_8 rfl (lv_at hl 2 rfl) ?_
  refine lv_iadd hx hb dX3_standingAt_9 ?_
  obtain ⟨r1, hr1, hf⟩ := nmE hf
  refine q_callSN (rest := []) (st1 := [.int r1]) [.ref (ad 12), .int ((a1 * 10) + a2)] ⟨hx, hb, hml, hown, hts⟩ (c_X5_at (q0 := 12) xa_12 hr1) ⟨va_cnB 2 hts gX3_standingAt_X5_at_n18 rfl rfl rfl (nw_X3_18 hw.2.2.2.2) (hts (.initialized RX5) (by decide +kernel)) (by decide +kernel) ⟨Nat.le_of_ble_eq_true rfl, Nat.le_of_ble_eq_true rfl⟩, (hts (.static yX5_at) (by decide +kernel)), trivial⟩ hw rfl hl.1 rfl (Nat.le_of_ble_eq_true rfl) dX3_standingAt_10 ⟨Nat.zero_le _, Nat.zero_le _⟩ rfl (fun H locs hw => ?_)
  cases hf
  exact q_iret hx hb hr hlocks hw dX3_standingAt_13

def f_X3_enter (K : RK)  (a1 : Int32) (a2 : Int32) : Option (Int32 × RK) := nm (at_ 3 (K 9) a2) (fun r1 => nm (upR K 8 (put_ 30 (K 8) ((a2 * 10) + r1) a1)) (fun K2 => nm (upR K2 9 (put_ 3 (K2 9) a2 (r1 + 1))) (fun K3 => some (r1, K3))))
set_option maxHeartbeats 4000000 in
set_option maxRecDepth 100000 in
theorem c_X3_enter {l : Launch} {D : va_G} {cI cR : ClassId} {ad : Nat → Nat} {A : Nat → Prop} {O : XO} {K : RK} {K' : RK} {a1 : Int32} {a2 : Int32} {r : Int32}  (hf : f_X3_enter K a1 a2 = some (r, K')) : MC l yX3_enter wsX3_enter 1 22 D cI cR A [.ref (ad 11), .int a1, .int a2] (xws cI cR ad O K) (some (.int r)) (xws cI cR ad O K') := by
  refine Met.ofW (cc := cX3_enter) (maxL := 4) (ret := (some .int)) (by decide) rfl ?_
  intro p e s m args below meth c s₁ B hml hv
  obtain ⟨rfl, hw⟩ := q_start hv
  have hx := B.exec
  have hb := B.bytes
  have hr := B.returns
  have hts := atoms_spec (ws := wsX3_enter) B.pre
  have hown : s.vm.findClass RX3 = some m.cls := findClass_of_methodNamed B.named
  have hlocks := B.notSynchronized
  have hiX3 : ∀ w ∈ wsX30, w ∈ wsX3_enter := by decide +kernel
  have hl := lv_entry ([.ref (ad 11), .int a1, .int a2]) (n := 4) (Nat.le_of_ble_eq_true rfl)
  rw [lg_entry_eq]
  generalize (lg_sl ([.ref (ad 11), .int a1, .int a2]) ++ List.replicate (4 - (lg_sl ([.ref (ad 11), .int a1, .int a2])).length) Slot.unset).toArray = ls at hl ⊢
  have hl : lv_has ls 4 [(0, .ref (ad 11)), (1, .int a1), (2, .int a2)] := hl
  unfold f_X3_enter at hf
  obtain ⟨H, eH⟩ : ∃ H, H = s.heap := ⟨_, rfl⟩
  obtain ⟨locs, eL⟩ : ∃ L : List Loc, L = [] := ⟨_, rfl⟩
  rw [← eH, ← eL] at hw ⊢
  clear eH eL
  refine lv_aload_n hx hb dX3_enter_0 rfl (lv_at hl 0 rfl) ?_
  refine q_get hx hb hts hiX3 hown hw 11 xa_11 rfl 1 (by decide) (hts (.fieldLink RX3 15 "LaceRanks$Lines" "lengths" "[I") (by decide +kernel)) rfl dX3_enter_1 ?_
  refine lv_iload_n hx hb dX3_enter_4 rfl (lv_at hl 2 rfl) ?_
  obtain ⟨r1, hr1, hf⟩ := nmE hf
  refine q_callSN (rest := []) (st1 := [.int r1]) [.ref (ad 13), .int a2] ⟨hx, hb, hml, hown, hts⟩ (c_X5_at (q0 := 13) xa_13 hr1) ⟨va_cnB 2 hts gX3_enter_X5_at_n18 rfl rfl rfl (nw_X3_18 hw.2.2.2.2) (hts (.initialized RX5) (by decide +kernel)) (by decide +kernel) ⟨Nat.le_of_ble_eq_true rfl, Nat.le_of_ble_eq_true rfl⟩, (hts (.static yX5_at) (by decide +kernel)), trivial⟩ hw rfl hl.1 rfl (Nat.le_of_ble_eq_true rfl) dX3_enter_5 ⟨Nat.zero_le _, Nat.zero_le _⟩ rfl (fun H locs hw => ?_)
  refine lv_istore_n (lv' := [(3, .int r1), (0, .ref (ad 11)), (1, .int a1), (2, .int a2)]) hx hb dX3_enter_8 rfl hl (by decide) rfl (fun ls hl => ?_)
  refine lv_aload_n hx hb dX3_enter_9 rfl (lv_at hl 1 rfl) ?_
  refine q_get hx hb hts hiX3 hown hw 11 xa_11 rfl 0 (by decide) (hts (.fieldLink RX3 9 "LaceRanks$Lines" "places" "[I") (by decide +kernel)) rfl dX3_enter_10 ?_
  refine lv_iload_n hx hb dX3_enter_13 rfl (lv_at hl 3 rfl) ?_
  refine lv_bipush (v := 10) hx hb dX3_enter_14 (by decide) ?_
  refine lv_imul hx hb dX3_enter_16 ?_
  refine lv_iload_n hx hb dX3_enter_17 rfl (lv_at hl 0 rfl) ?_
  refine lv_iadd hx hb dX3_enter_18 ?_
  refine lv_iload_n hx hb dX3_enter_19 rfl (lv_at hl 2 rfl) ?_
  obtain ⟨K2, hK2, hf⟩ := nmE hf
  refine q_callSN (rest := []) (st1 := []) [.ref (ad 12), .int ((a2 * 10) + r1), .int a1] ⟨hx, hb, hml, hown, hts⟩ (c_X5_put (q0 := 12) xa_12 (xs_12.trans (congrArg (fun z => (xws cI cR ad O z)) hK2.symm))) ⟨va_cnB 3 hts gX3_enter_X5_put_n22 rfl rfl rfl (nw_X3_22 hw.2.2.2.2) (hts (.initialized RX5) (by decide +kernel)) (by decide +kernel) ⟨Nat.le_of_ble_eq_true rfl, Nat.le_of_ble_eq_true rfl⟩, (hts (.static yX5_put) (by decide +kernel)), trivial⟩ hw rfl hl.1 rfl (Nat.le_of_ble_eq_true rfl) dX3_enter_20 ⟨Nat.zero_le _, Nat.zero_le _⟩ rfl (fun H locs hw => ?_)
  refine lv_aload_n hx hb dX3_enter_23 rfl (lv_at hl 1 rfl) ?_
  refine q_get hx hb hts hiX3 hown hw 11 xa_11 rfl 1 (by decide) (hts (.fieldLink RX3 15 "LaceRanks$Lines" "lengths" "[I") (by decide +kernel)) rfl dX3_enter_24 ?_
  refine lv_iload_n hx hb dX3_enter_27 rfl (lv_at hl 3 rfl) ?_
  refine lv_iload_n hx hb dX3_enter_28 rfl (lv_at hl 0 rfl) ?_
  refine lv_iconst (v := 1) hx hb dX3_enter_29 (by decide) ?_
  refine lv_iadd hx hb dX3_enter_30 ?_
  obtain ⟨K3, hK3, hf⟩ := nmE hf
  refine q_callSN (rest := []) (st1 := []) [.ref (ad 13), .int a2, .int (r1 + 1)] ⟨hx, hb, hml, hown, hts⟩ (c_X5_put (q0 := 13) xa_13 (xs_13.trans (congrArg (fun z => (xws cI cR ad O z)) hK3.symm))) ⟨va_cnB 3 hts gX3_enter_X5_put_n22 rfl rfl rfl (nw_X3_22 hw.2.2.2.2) (hts (.initialized RX5) (by decide +kernel)) (by decide +kernel) ⟨Nat.le_of_ble_eq_true rfl, Nat.le_of_ble_eq_true rfl⟩, (hts (.static yX5_put) (by decide +kernel)), trivial⟩ hw rfl hl.1 rfl (Nat.le_of_ble_eq_true rfl) dX3_enter_31 ⟨Nat.zero_le _, Nat.zero_le _⟩ rfl (fun H locs hw => ?_)
  refine lv_iload_n hx hb dX3_enter_34 rfl (lv_at hl 0 rfl) ?_
  cases hf
  exact q_iret hx hb hr hlocks hw dX3_enter_35

def f_X3_takeFirst_l25    : Nat → RK → Int32 → Int32 → Int32 → Int32 → Option (Int32 × RK)
  | 0, _, _, _, _, _ => none
  | n25 + 1, K, x1, x2, x3, x4 => (if x2 ≤ (x4 + 1) then nm (upR K 9 (put_ 3 (K 9) x1 (x2 - 1))) (fun K1 => some (x3, K1)) else bnd (f_X3_standingAt K x1 (x4 + 1)) (fun r2 => nm (upR K 8 (put_ 30 (K 8) ((x1 * 10) + x4) r2)) (fun K3 => nm (x4 + 1) (fun v4 => (f_X3_takeFirst_l25 n25) K3 x1 x2 x3 v4))))
def f_X3_takeFirst (K : RK)  (a1 : Int32) : Option (Int32 × RK) := nm (at_ 3 (K 9) a1) (fun r1 => (if 0 < r1 then bnd (f_X3_standingAt K a1 0) (fun r2 => f_X3_takeFirst_l25 fuelN K a1 r1 r2 0) else some ((-1), K)))
set_option maxHeartbeats 4000000 in
set_option maxRecDepth 100000 in
theorem c_X3_takeFirst {l : Launch} {D : va_G} {cI cR : ClassId} {ad : Nat → Nat} {A : Nat → Prop} {O : XO} {K : RK} {K' : RK} {a1 : Int32} {r : Int32}  (hf : f_X3_takeFirst K a1 = some (r, K')) : MC l yX3_takeFirst wsX3_takeFirst 2 43 D cI cR A [.ref (ad 11), .int a1] (xws cI cR ad O K) (some (.int r)) (xws cI cR ad O K') := by
  refine Met.ofW (cc := cX3_takeFirst) (maxL := 5) (ret := (some .int)) (by decide) rfl ?_
  intro p e s m args below meth c s₁ B hml hv
  obtain ⟨rfl, hw⟩ := q_start hv
  have hx := B.exec
  have hb := B.bytes
  have hr := B.returns
  have hts := atoms_spec (ws := wsX3_takeFirst) B.pre
  have hown : s.vm.findClass RX3 = some m.cls := findClass_of_methodNamed B.named
  have hlocks := B.notSynchronized
  have hiX3 : ∀ w ∈ wsX30, w ∈ wsX3_takeFirst := by decide +kernel
  have hl := lv_entry ([.ref (ad 11), .int a1]) (n := 5) (Nat.le_of_ble_eq_true rfl)
  rw [lg_entry_eq]
  generalize (lg_sl ([.ref (ad 11), .int a1]) ++ List.replicate (5 - (lg_sl ([.ref (ad 11), .int a1])).length) Slot.unset).toArray = ls at hl ⊢
  have hl : lv_has ls 5 [(0, .ref (ad 11)), (1, .int a1)] := hl
  unfold f_X3_takeFirst at hf
  obtain ⟨H, eH⟩ : ∃ H, H = s.heap := ⟨_, rfl⟩
  obtain ⟨locs, eL⟩ : ∃ L : List Loc, L = [] := ⟨_, rfl⟩
  rw [← eH, ← eL] at hw ⊢
  clear eH eL
  have L25 : ∀ (n25 : Nat) (K : RK) (x1 : Int32) (x2 : Int32) (x3 : Int32) (x4 : Int32) (H : Heap) (locs : List Loc) (ls : Array Slot), f_X3_takeFirst_l25 n25 K x1 x2 x3 x4 = some (r, K') → WH D cI cR A (xws cI cR ad O K) s H locs → lv_has ls 5 [(0, .ref (ad 11)), (1, .int x1), (2, .int x2), (3, .int x3), (4, .int x4)] → W p l e (headSpec wsX3_takeFirst ({ frames := 2, cells := 0, slots := 0, locals := 43 })).room s m ([.ref (ad 11), .int a1] : List Value).toArray below meth c H locs 0 0 (MQ below (QV (some (.int r)) D A (xws cI cR ad O K')) (([.ref (ad 11), .int a1] : List Value)).toArray s 0 0 A) (F0 m 25 ls []) := by
    intro n25
    induction n25 with
    | zero => intro K x1 x2 x3 x4 H locs ls hf; cases hf
    | succ n25 ih =>
      have ih25 := ih
      intro K x1 x2 x3 x4 H locs ls hf hw hl
      simp only [f_X3_takeFirst_l25] at hf
      refine lv_iload hx hb dX3_takeFirst_25 (lv_at hl 4 rfl) ?_
      refine lv_iconst (v := 1) hx hb dX3_takeFirst_27 (by decide) ?_
      refine lv_iadd hx hb dX3_takeFirst_28 ?_
      refine lv_iload_n hx hb dX3_takeFirst_29 rfl (lv_at hl 2 rfl) ?_
      refine lv_icmp_ge (tgt := 62) hx hb dX3_takeFirst_30 (by decide) (fun hc => ?_) (fun hc => ?_)
      · have hf := iteT hf hc
        refine lv_aload_n hx hb dX3_takeFirst_62 rfl (lv_at hl 0 rfl) ?_
        refine q_get hx hb hts hiX3 hown hw 11 xa_11 rfl 1 (by decide) (hts (.fieldLink RX3 15 "LaceRanks$Lines" "lengths" "[I") (by decide +kernel)) rfl dX3_takeFirst_63 ?_
        refine lv_iload_n hx hb dX3_takeFirst_66 rfl (lv_at hl 1 rfl) ?_
        refine lv_iload_n hx hb dX3_takeFirst_67 rfl (lv_at hl 2 rfl) ?_
        refine lv_iconst (v := 1) hx hb dX3_takeFirst_68 (by decide) ?_
        refine lv_isub hx hb dX3_takeFirst_69 ?_
        obtain ⟨K1, hK1, hf⟩ := nmE hf
        refine q_callSN (rest := []) (st1 := []) [.ref (ad 13), .int x1, .int (x2 - 1)] ⟨hx, hb, hml, hown, hts⟩ (c_X5_put (q0 := 13) xa_13 (xs_13.trans (congrArg (fun z => (xws cI cR ad O z)) hK1.symm))) ⟨va_cnB 3 hts gX3_takeFirst_X5_put_n22 rfl rfl rfl (nw_X3_22 hw.2.2.2.2) (hts (.initialized RX5) (by decide +kernel)) (by decide +kernel) ⟨Nat.le_of_ble_eq_true rfl, Nat.le_of_ble_eq_true rfl⟩, (hts (.static yX5_put) (by decide +kernel)), trivial⟩ hw rfl hl.1 rfl (Nat.le_of_ble_eq_true rfl) dX3_takeFirst_70 ⟨Nat.zero_le _, Nat.zero_le _⟩ rfl (fun H locs hw => ?_)
        refine lv_iload_n hx hb dX3_takeFirst_73 rfl (lv_at hl 3 rfl) ?_
        cases hf
        exact q_iret hx hb hr hlocks hw dX3_takeFirst_74
      · have hf := iteF hf hc
        refine lv_aload_n hx hb dX3_takeFirst_33 rfl (lv_at hl 0 rfl) ?_
        refine q_get hx hb hts hiX3 hown hw 11 xa_11 rfl 0 (by decide) (hts (.fieldLink RX3 9 "LaceRanks$Lines" "places" "[I") (by decide +kernel)) rfl dX3_takeFirst_34 ?_
        refine lv_iload_n hx hb dX3_takeFirst_37 rfl (lv_at hl 1 rfl) ?_
        refine lv_bipush (v := 10) hx hb dX3_takeFirst_38 (by decide) ?_
        refine lv_imul hx hb dX3_takeFirst_40 ?_
        refine lv_iload hx hb dX3_takeFirst_41 (lv_at hl 4 rfl) ?_
        refine lv_iadd hx hb dX3_takeFirst_43 ?_
        refine lv_aload_n hx hb dX3_takeFirst_44 rfl (lv_at hl 0 rfl) ?_
        refine lv_iload_n hx hb dX3_takeFirst_45 rfl (lv_at hl 1 rfl) ?_
        refine lv_iload hx hb dX3_takeFirst_46 (lv_at hl 4 rfl) ?_
        refine lv_iconst (v := 1) hx hb dX3_takeFirst_48 (by decide) ?_
        refine lv_iadd hx hb dX3_takeFirst_49 ?_
        obtain ⟨r2, hr2, hf⟩ := bndS hf
        refine q_callV (rest := [.int ((x1 * 10) + x4), .ref (ad 12)]) (st1 := [.int r2, .int ((x1 * 10) + x4), .ref (ad 12)]) [.int x1, .int (x4 + 1)] ⟨hx, hb, hml, hown, hts⟩ (c_X3_standingAt hr2) (cwV 2 hts gX3_takeFirst_X3_standingAt rfl rfl rfl (by decide +kernel) ⟨Nat.le_of_ble_eq_true rfl, Nat.le_of_ble_eq_true rfl⟩) hw xa_11 rfl rfl hl.1 rfl (Nat.le_of_ble_eq_true rfl) dX3_takeFirst_50 ⟨Nat.zero_le _, Nat.zero_le _⟩ rfl (fun H locs hw => ?_)
        obtain ⟨K3, hK3, hf⟩ := nmE hf
        refine q_callSN (rest := []) (st1 := []) [.ref (ad 12), .int ((x1 * 10) + x4), .int r2] ⟨hx, hb, hml, hown, hts⟩ (c_X5_put (q0 := 12) xa_12 (xs_12.trans (congrArg (fun z => (xws cI cR ad O z)) hK3.symm))) ⟨va_cnB 3 hts gX3_takeFirst_X5_put_n22 rfl rfl rfl (nw_X3_22 hw.2.2.2.2) (hts (.initialized RX5) (by decide +kernel)) (by decide +kernel) ⟨Nat.le_of_ble_eq_true rfl, Nat.le_of_ble_eq_true rfl⟩, (hts (.static yX5_put) (by decide +kernel)), trivial⟩ hw rfl hl.1 rfl (Nat.le_of_ble_eq_true rfl) dX3_takeFirst_53 ⟨Nat.zero_le _, Nat.zero_le _⟩ rfl (fun H locs hw => ?_)
        obtain ⟨v4, hv4, hf⟩ := nmE hf
        refine lv_iinc (v := v4) (lv' := [(4, .int v4), (0, .ref (ad 11)), (1, .int x1), (2, .int x2), (3, .int x3)]) hx hb dX3_takeFirst_56 hl (k := 4) rfl (by rw [hv4]; rfl) (by decide) rfl (fun ls hl => ?_)
        refine lv_goto (tgt := 25) hx hb dX3_takeFirst_59 (by decide) ?_
        exact ih25 K3 x1 x2 x3 v4 H locs ls hf hw (lv_sub hl [1, 2, 3, 4, 0] rfl)
  refine lv_aload_n hx hb dX3_takeFirst_0 rfl (lv_at hl 0 rfl) ?_
  refine q_get hx hb hts hiX3 hown hw 11 xa_11 rfl 1 (by decide) (hts (.fieldLink RX3 15 "LaceRanks$Lines" "lengths" "[I") (by decide +kernel)) rfl dX3_takeFirst_1 ?_
  refine lv_iload_n hx hb dX3_takeFirst_4 rfl (lv_at hl 1 rfl) ?_
  obtain ⟨r1, hr1, hf⟩ := nmE hf
  refine q_callSN (rest := []) (st1 := [.int r1]) [.ref (ad 13), .int a1] ⟨hx, hb, hml, hown, hts⟩ (c_X5_at (q0 := 13) xa_13 hr1) ⟨va_cnB 2 hts gX3_takeFirst_X5_at_n18 rfl rfl rfl (nw_X3_18 hw.2.2.2.2) (hts (.initialized RX5) (by decide +kernel)) (by decide +kernel) ⟨Nat.le_of_ble_eq_true rfl, Nat.le_of_ble_eq_true rfl⟩, (hts (.static yX5_at) (by decide +kernel)), trivial⟩ hw rfl hl.1 rfl (Nat.le_of_ble_eq_true rfl) dX3_takeFirst_5 ⟨Nat.zero_le _, Nat.zero_le _⟩ rfl (fun H locs hw => ?_)
  refine lv_istore_n (lv' := [(2, .int r1), (0, .ref (ad 11)), (1, .int a1)]) hx hb dX3_takeFirst_8 rfl hl (by decide) rfl (fun ls hl => ?_)
  refine lv_iload_n hx hb dX3_takeFirst_9 rfl (lv_at hl 0 rfl) ?_
  refine lv_if_gt (tgt := 15) hx hb dX3_takeFirst_10 (by decide) (fun hc => ?_) (fun hc => ?_)
  · have hf := iteT hf hc
    refine lv_aload_n hx hb dX3_takeFirst_15 rfl (lv_at hl 1 rfl) ?_
    refine lv_iload_n hx hb dX3_takeFirst_16 rfl (lv_at hl 2 rfl) ?_
    refine lv_iconst (v := 0) hx hb dX3_takeFirst_17 (by decide) ?_
    obtain ⟨r2, hr2, hf⟩ := bndS hf
    refine q_callV (rest := []) (st1 := [.int r2]) [.int a1, .int 0] ⟨hx, hb, hml, hown, hts⟩ (c_X3_standingAt hr2) (cwV 2 hts gX3_takeFirst_X3_standingAt rfl rfl rfl (by decide +kernel) ⟨Nat.le_of_ble_eq_true rfl, Nat.le_of_ble_eq_true rfl⟩) hw xa_11 rfl rfl hl.1 rfl (Nat.le_of_ble_eq_true rfl) dX3_takeFirst_18 ⟨Nat.zero_le _, Nat.zero_le _⟩ rfl (fun H locs hw => ?_)
    refine lv_istore_n (lv' := [(3, .int r2), (2, .int r1), (0, .ref (ad 11)), (1, .int a1)]) hx hb dX3_takeFirst_21 rfl hl (by decide) rfl (fun ls hl => ?_)
    refine lv_iconst (v := 0) hx hb dX3_takeFirst_22 (by decide) ?_
    refine lv_istore (lv' := [(4, .int 0), (3, .int r2), (2, .int r1), (0, .ref (ad 11)), (1, .int a1)]) hx hb dX3_takeFirst_23 hl (by decide) rfl (fun ls hl => ?_)
    exact L25 fuelN K a1 r1 r2 0 H locs ls hf hw (lv_sub hl [3, 4, 2, 1, 0] rfl)
  · have hf := iteF hf hc
    refine lv_iconst (v := (-1)) hx hb dX3_takeFirst_13 (by decide) ?_
    cases hf
    exact q_iret hx hb hr hlocks hw dX3_takeFirst_14

def f_X3_spotOf_l27 (k2 : Int32 → Int32 → Option Int32) (K : RK)  : Nat → Int32 → Int32 → Int32 → Int32 → Option Int32
  | 0, _, _, _, _ => none
  | n27 + 1, x1, x2, x3, x4 => (if x3 ≤ x4 then nm (x2 + 1) (fun v1 => k2 x1 v1) else nm (at_ 30 (K 8) x4) (fun r2 => (if r2 = x1 then some x4 else nm (x4 + 1) (fun v3 => (f_X3_spotOf_l27 k2 K n27) x1 x2 x3 v3))))
def f_X3_spotOf_l2  (K : RK)  : Nat → Int32 → Int32 → Option Int32
  | 0, _, _ => none
  | n2 + 1, x1, x2 => (if 3 ≤ x2 then some (-1) else nm (at_ 3 (K 9) x2) (fun r1 => nm ((x2 * 10) + r1) (fun v2 => f_X3_spotOf_l27 (f_X3_spotOf_l2 K n2) K fuelN x1 x2 v2 (x2 * 10))))
def f_X3_spotOf (K : RK)  (a1 : Int32) : Option Int32 := f_X3_spotOf_l2 K fuelN a1 0
set_option maxHeartbeats 4000000 in
set_option maxRecDepth 100000 in
theorem c_X3_spotOf {l : Launch} {D : va_G} {cI cR : ClassId} {ad : Nat → Nat} {A : Nat → Prop} {O : XO} {K : RK}  {a1 : Int32} {r : Int32}  (hf : f_X3_spotOf K a1 = some r) : MC l yX3_spotOf wsX3_spotOf 1 21 D cI cR A [.ref (ad 11), .int a1] (xws cI cR ad O K) (some (.int r)) (xws cI cR ad O K) := by
  refine Met.ofW (cc := cX3_spotOf) (maxL := 5) (ret := (some .int)) (by decide) rfl ?_
  intro p e s m args below meth c s₁ B hml hv
  obtain ⟨rfl, hw⟩ := q_start hv
  have hx := B.exec
  have hb := B.bytes
  have hr := B.returns
  have hts := atoms_spec (ws := wsX3_spotOf) B.pre
  have hown : s.vm.findClass RX3 = some m.cls := findClass_of_methodNamed B.named
  have hlocks := B.notSynchronized
  have hiX3 : ∀ w ∈ wsX30, w ∈ wsX3_spotOf := by decide +kernel
  have hl := lv_entry ([.ref (ad 11), .int a1]) (n := 5) (Nat.le_of_ble_eq_true rfl)
  rw [lg_entry_eq]
  generalize (lg_sl ([.ref (ad 11), .int a1]) ++ List.replicate (5 - (lg_sl ([.ref (ad 11), .int a1])).length) Slot.unset).toArray = ls at hl ⊢
  have hl : lv_has ls 5 [(0, .ref (ad 11)), (1, .int a1)] := hl
  unfold f_X3_spotOf at hf
  obtain ⟨H, eH⟩ : ∃ H, H = s.heap := ⟨_, rfl⟩
  obtain ⟨locs, eL⟩ : ∃ L : List Loc, L = [] := ⟨_, rfl⟩
  rw [← eH, ← eL] at hw ⊢
  clear eH eL
  have L2 : ∀ (n2 : Nat) (x1 : Int32) (x2 : Int32) (H : Heap) (locs : List Loc) (ls : Array Slot), f_X3_spotOf_l2 K n2 x1 x2 = some r → WH D cI cR A (xws cI cR ad O K) s H locs → lv_has ls 5 [(0, .ref (ad 11)), (1, .int x1), (2, .int x2)] → W p l e (headSpec wsX3_spotOf ({ frames := 1, cells := 0, slots := 0, locals := 21 })).room s m ([.ref (ad 11), .int a1] : List Value).toArray below meth c H locs 0 0 (MQ below (QV (some (.int r)) D A (xws cI cR ad O K)) (([.ref (ad 11), .int a1] : List Value)).toArray s 0 0 A) (F0 m 2 ls []) := by
    intro n2
    induction n2 with
    | zero => intro x1 x2 H locs ls hf; cases hf
    | succ n2 ih =>
      have ih2 := ih
      have L27 : ∀ (n27 : Nat) (x1 : Int32) (x2 : Int32) (x3 : Int32) (x4 : Int32) (H : Heap) (locs : List Loc) (ls : Array Slot), f_X3_spotOf_l27 (f_X3_spotOf_l2 K n2) K n27 x1 x2 x3 x4 = some r → WH D cI cR A (xws cI cR ad O K) s H locs → lv_has ls 5 [(0, .ref (ad 11)), (1, .int x1), (2, .int x2), (3, .int x3), (4, .int x4)] → W p l e (headSpec wsX3_spotOf ({ frames := 1, cells := 0, slots := 0, locals := 21 })).room s m ([.ref (ad 11), .int a1] : List Value).toArray below meth c H locs 0 0 (MQ below (QV (some (.int r)) D A (xws cI cR ad O K)) (([.ref (ad 11), .int a1] : List Value)).toArray s 0 0 A) (F0 m 27 ls []) := by
        intro n27
        induction n27 with
        | zero => intro x1 x2 x3 x4 H locs ls hf; cases hf
        | succ n27 ih =>
          have ih27 := ih
          intro x1 x2 x3 x4 H locs ls hf hw hl
          simp only [f_X3_spotOf_l27] at hf
          refine lv_iload hx hb dX3_spotOf_27 (lv_at hl 4 rfl) ?_
          refine lv_iload_n hx hb dX3_spotOf_29 rfl (lv_at hl 3 rfl) ?_
          refine lv_icmp_ge (tgt := 55) hx hb dX3_spotOf_30 (by decide) (fun hc => ?_) (fun hc => ?_)
          · have hf := iteT hf hc
            obtain ⟨v1, hv1, hf⟩ := nmE hf
            refine lv_iinc (v := v1) (lv' := [(2, .int v1), (0, .ref (ad 11)), (1, .int x1), (3, .int x3), (4, .int x4)]) hx hb dX3_spotOf_55 hl (k := 2) rfl (by rw [hv1]; rfl) (by decide) rfl (fun ls hl => ?_)
            refine lv_goto (tgt := 2) hx hb dX3_spotOf_58 (by decide) ?_
            exact ih2 x1 v1 H locs ls hf hw (lv_sub hl [1, 2, 0] rfl)
          · have hf := iteF hf hc
            refine lv_aload_n hx hb dX3_spotOf_33 rfl (lv_at hl 0 rfl) ?_
            refine q_get hx hb hts hiX3 hown hw 11 xa_11 rfl 0 (by decide) (hts (.fieldLink RX3 9 "LaceRanks$Lines" "places" "[I") (by decide +kernel)) rfl dX3_spotOf_34 ?_
            refine lv_iload hx hb dX3_spotOf_37 (lv_at hl 4 rfl) ?_
            obtain ⟨r2, hr2, hf⟩ := nmE hf
            refine q_callSN (rest := []) (st1 := [.int r2]) [.ref (ad 12), .int x4] ⟨hx, hb, hml, hown, hts⟩ (c_X5_at (q0 := 12) xa_12 hr2) ⟨va_cnB 2 hts gX3_spotOf_X5_at_n18 rfl rfl rfl (nw_X3_18 hw.2.2.2.2) (hts (.initialized RX5) (by decide +kernel)) (by decide +kernel) ⟨Nat.le_of_ble_eq_true rfl, Nat.le_of_ble_eq_true rfl⟩, (hts (.static yX5_at) (by decide +kernel)), trivial⟩ hw rfl hl.1 rfl (Nat.le_of_ble_eq_true rfl) dX3_spotOf_39 ⟨Nat.zero_le _, Nat.zero_le _⟩ rfl (fun H locs hw => ?_)
            refine lv_iload_n hx hb dX3_spotOf_42 rfl (lv_at hl 1 rfl) ?_
            refine lv_icmp_ne (tgt := 49) hx hb dX3_spotOf_43 (by decide) (fun hc => ?_) (fun hc => ?_)
            · have hf := iteF hf hc
              obtain ⟨v3, hv3, hf⟩ := nmE hf
              refine lv_iinc (v := v3) (lv' := [(4, .int v3), (0, .ref (ad 11)), (1, .int x1), (2, .int x2), (3, .int x3)]) hx hb dX3_spotOf_49 hl (k := 4) rfl (by rw [hv3]; rfl) (by decide) rfl (fun ls hl => ?_)
              refine lv_goto (tgt := 27) hx hb dX3_spotOf_52 (by decide) ?_
              exact ih27 x1 x2 x3 v3 H locs ls hf hw (lv_sub hl [1, 2, 3, 4, 0] rfl)
            · have hf := iteT hf hc
              refine lv_iload hx hb dX3_spotOf_46 (lv_at hl 4 rfl) ?_
              cases hf
              exact q_iret hx hb hr hlocks hw dX3_spotOf_48
      intro x1 x2 H locs ls hf hw hl
      simp only [f_X3_spotOf_l2] at hf
      refine lv_iload_n hx hb dX3_spotOf_2 rfl (lv_at hl 2 rfl) ?_
      refine lv_iconst (v := 3) hx hb dX3_spotOf_3 (by decide) ?_
      refine lv_icmp_ge (tgt := 61) hx hb dX3_spotOf_4 (by decide) (fun hc => ?_) (fun hc => ?_)
      · have hf := iteT hf hc
        refine lv_iconst (v := (-1)) hx hb dX3_spotOf_61 (by decide) ?_
        cases hf
        exact q_iret hx hb hr hlocks hw dX3_spotOf_62
      · have hf := iteF hf hc
        refine lv_iload_n hx hb dX3_spotOf_7 rfl (lv_at hl 2 rfl) ?_
        refine lv_bipush (v := 10) hx hb dX3_spotOf_8 (by decide) ?_
        refine lv_imul hx hb dX3_spotOf_10 ?_
        refine lv_aload_n hx hb dX3_spotOf_11 rfl (lv_at hl 0 rfl) ?_
        refine q_get hx hb hts hiX3 hown hw 11 xa_11 rfl 1 (by decide) (hts (.fieldLink RX3 15 "LaceRanks$Lines" "lengths" "[I") (by decide +kernel)) rfl dX3_spotOf_12 ?_
        refine lv_iload_n hx hb dX3_spotOf_15 rfl (lv_at hl 2 rfl) ?_
        obtain ⟨r1, hr1, hf⟩ := nmE hf
        refine q_callSN (rest := [.int (x2 * 10)]) (st1 := [.int r1, .int (x2 * 10)]) [.ref (ad 13), .int x2] ⟨hx, hb, hml, hown, hts⟩ (c_X5_at (q0 := 13) xa_13 hr1) ⟨va_cnB 2 hts gX3_spotOf_X5_at_n18 rfl rfl rfl (nw_X3_18 hw.2.2.2.2) (hts (.initialized RX5) (by decide +kernel)) (by decide +kernel) ⟨Nat.le_of_ble_eq_true rfl, Nat.le_of_ble_eq_true rfl⟩, (hts (.static yX5_at) (by decide +kernel)), trivial⟩ hw rfl hl.1 rfl (Nat.le_of_ble_eq_true rfl) dX3_spotOf_16 ⟨Nat.zero_le _, Nat.zero_le _⟩ rfl (fun H locs hw => ?_)
        refine lv_iadd hx hb dX3_spotOf_19 ?_
        obtain ⟨v2, hv2, hf⟩ := nmE hf
        refine q_is hv2 ?_
        refine lv_istore_n (lv' := [(3, .int v2), (0, .ref (ad 11)), (1, .int x1), (2, .int x2)]) hx hb dX3_spotOf_20 rfl hl (by decide) rfl (fun ls hl => ?_)
        refine lv_iload_n hx hb dX3_spotOf_21 rfl (lv_at hl 3 rfl) ?_
        refine lv_bipush (v := 10) hx hb dX3_spotOf_22 (by decide) ?_
        refine lv_imul hx hb dX3_spotOf_24 ?_
        refine lv_istore (lv' := [(4, .int (x2 * 10)), (3, .int v2), (0, .ref (ad 11)), (1, .int x1), (2, .int x2)]) hx hb dX3_spotOf_25 hl (by decide) rfl (fun ls hl => ?_)
        exact L27 fuelN x1 x2 v2 (x2 * 10) H locs ls hf hw (lv_sub hl [2, 3, 4, 1, 0] rfl)
  refine lv_iconst (v := 0) hx hb dX3_spotOf_0 (by decide) ?_
  refine lv_istore_n (lv' := [(2, .int 0), (0, .ref (ad 11)), (1, .int a1)]) hx hb dX3_spotOf_1 rfl hl (by decide) rfl (fun ls hl => ?_)
  exact L2 fuelN a1 0 H locs ls hf hw (lv_sub hl [1, 2, 0] rfl)

def f_X3_gateOf (K : RK)  (a1 : Int32) : Option Int32 := bnd (f_X3_spotOf K a1) (fun r1 => (if r1 = (-1) then some (-1) else some (r1 / 10)))
set_option maxHeartbeats 4000000 in
set_option maxRecDepth 100000 in
theorem c_X3_gateOf {l : Launch} {D : va_G} {cI cR : ClassId} {ad : Nat → Nat} {A : Nat → Prop} {O : XO} {K : RK}  {a1 : Int32} {r : Int32}  (hf : f_X3_gateOf K a1 = some r) : MC l yX3_gateOf wsX3_gateOf 2 45 D cI cR A [.ref (ad 11), .int a1] (xws cI cR ad O K) (some (.int r)) (xws cI cR ad O K) := by
  refine Met.ofW (cc := cX3_gateOf) (maxL := 3) (ret := (some .int)) (by decide) rfl ?_
  intro p e s m args below meth c s₁ B hml hv
  obtain ⟨rfl, hw⟩ := q_start hv
  have hx := B.exec
  have hb := B.bytes
  have hr := B.returns
  have hts := atoms_spec (ws := wsX3_gateOf) B.pre
  have hown : s.vm.findClass RX3 = some m.cls := findClass_of_methodNamed B.named
  have hlocks := B.notSynchronized
  have hl := lv_entry ([.ref (ad 11), .int a1]) (n := 3) (Nat.le_of_ble_eq_true rfl)
  rw [lg_entry_eq]
  generalize (lg_sl ([.ref (ad 11), .int a1]) ++ List.replicate (3 - (lg_sl ([.ref (ad 11), .int a1])).length) Slot.unset).toArray = ls at hl ⊢
  have hl : lv_has ls 3 [(0, .ref (ad 11)), (1, .int a1)] := hl
  unfold f_X3_gateOf at hf
  obtain ⟨H, eH⟩ : ∃ H, H = s.heap := ⟨_, rfl⟩
  obtain ⟨locs, eL⟩ : ∃ L : List Loc, L = [] := ⟨_, rfl⟩
  rw [← eH, ← eL] at hw ⊢
  clear eH eL
  refine lv_aload_n hx hb dX3_gateOf_0 rfl (lv_at hl 0 rfl) ?_
  refine lv_iload_n hx hb dX3_gateOf_1 rfl (lv_at hl 1 rfl) ?_
  obtain ⟨r1, hr1, hf⟩ := bndS hf
  refine q_callV (rest := []) (st1 := [.int r1]) [.int a1] ⟨hx, hb, hml, hown, hts⟩ (c_X3_spotOf hr1) (cwV 1 hts gX3_gateOf_X3_spotOf rfl rfl rfl (by decide +kernel) ⟨Nat.le_of_ble_eq_true rfl, Nat.le_of_ble_eq_true rfl⟩) hw xa_11 rfl rfl hl.1 rfl (Nat.le_of_ble_eq_true rfl) dX3_gateOf_2 ⟨Nat.zero_le _, Nat.zero_le _⟩ rfl (fun H locs hw => ?_)
  refine lv_istore_n (lv' := [(2, .int r1), (0, .ref (ad 11)), (1, .int a1)]) hx hb dX3_gateOf_5 rfl hl (by decide) rfl (fun ls hl => ?_)
  refine lv_iload_n hx hb dX3_gateOf_6 rfl (lv_at hl 0 rfl) ?_
  refine lv_iconst (v := (-1)) hx hb dX3_gateOf_7 (by decide) ?_
  refine lv_icmp_ne (tgt := 15) hx hb dX3_gateOf_8 (by decide) (fun hc => ?_) (fun hc => ?_)
  · have hf := iteF hf hc
    refine lv_iload_n hx hb dX3_gateOf_15 rfl (lv_at hl 0 rfl) ?_
    refine lv_bipush (v := 10) hx hb dX3_gateOf_16 (by decide) ?_
    refine lv_idiv hx hb dX3_gateOf_18 (by decide) ?_
    cases hf
    exact q_iret hx hb hr hlocks hw dX3_gateOf_19
  · have hf := iteT hf hc
    refine lv_iconst (v := (-1)) hx hb dX3_gateOf_11 (by decide) ?_
    refine lv_goto (tgt := 19) hx hb dX3_gateOf_12 (by decide) ?_
    cases hf
    exact q_iret hx hb hr hlocks hw dX3_gateOf_19

def f_X3_placeOf (K : RK)  (a1 : Int32) : Option Int32 := bnd (f_X3_spotOf K a1) (fun r1 => (if r1 = (-1) then some (-1) else some (r1 - r1 / 10 * 10)))
set_option maxHeartbeats 4000000 in
set_option maxRecDepth 100000 in
theorem c_X3_placeOf {l : Launch} {D : va_G} {cI cR : ClassId} {ad : Nat → Nat} {A : Nat → Prop} {O : XO} {K : RK}  {a1 : Int32} {r : Int32}  (hf : f_X3_placeOf K a1 = some r) : MC l yX3_placeOf wsX3_placeOf 2 45 D cI cR A [.ref (ad 11), .int a1] (xws cI cR ad O K) (some (.int r)) (xws cI cR ad O K) := by
  refine Met.ofW (cc := cX3_placeOf) (maxL := 3) (ret := (some .int)) (by decide) rfl ?_
  intro p e s m args below meth c s₁ B hml hv
  obtain ⟨rfl, hw⟩ := q_start hv
  have hx := B.exec
  have hb := B.bytes
  have hr := B.returns
  have hts := atoms_spec (ws := wsX3_placeOf) B.pre
  have hown : s.vm.findClass RX3 = some m.cls := findClass_of_methodNamed B.named
  have hlocks := B.notSynchronized
  have hl := lv_entry ([.ref (ad 11), .int a1]) (n := 3) (Nat.le_of_ble_eq_true rfl)
  rw [lg_entry_eq]
  generalize (lg_sl ([.ref (ad 11), .int a1]) ++ List.replicate (3 - (lg_sl ([.ref (ad 11), .int a1])).length) Slot.unset).toArray = ls at hl ⊢
  have hl : lv_has ls 3 [(0, .ref (ad 11)), (1, .int a1)] := hl
  unfold f_X3_placeOf at hf
  obtain ⟨H, eH⟩ : ∃ H, H = s.heap := ⟨_, rfl⟩
  obtain ⟨locs, eL⟩ : ∃ L : List Loc, L = [] := ⟨_, rfl⟩
  rw [← eH, ← eL] at hw ⊢
  clear eH eL
  refine lv_aload_n hx hb dX3_placeOf_0 rfl (lv_at hl 0 rfl) ?_
  refine lv_iload_n hx hb dX3_placeOf_1 rfl (lv_at hl 1 rfl) ?_
  obtain ⟨r1, hr1, hf⟩ := bndS hf
  refine q_callV (rest := []) (st1 := [.int r1]) [.int a1] ⟨hx, hb, hml, hown, hts⟩ (c_X3_spotOf hr1) (cwV 1 hts gX3_placeOf_X3_spotOf rfl rfl rfl (by decide +kernel) ⟨Nat.le_of_ble_eq_true rfl, Nat.le_of_ble_eq_true rfl⟩) hw xa_11 rfl rfl hl.1 rfl (Nat.le_of_ble_eq_true rfl) dX3_placeOf_2 ⟨Nat.zero_le _, Nat.zero_le _⟩ rfl (fun H locs hw => ?_)
  refine lv_istore_n (lv' := [(2, .int r1), (0, .ref (ad 11)), (1, .int a1)]) hx hb dX3_placeOf_5 rfl hl (by decide) rfl (fun ls hl => ?_)
  refine lv_iload_n hx hb dX3_placeOf_6 rfl (lv_at hl 0 rfl) ?_
  refine lv_iconst (v := (-1)) hx hb dX3_placeOf_7 (by decide) ?_
  refine lv_icmp_ne (tgt := 15) hx hb dX3_placeOf_8 (by decide) (fun hc => ?_) (fun hc => ?_)
  · have hf := iteF hf hc
    refine lv_iload_n hx hb dX3_placeOf_15 rfl (lv_at hl 0 rfl) ?_
    refine lv_bipush (v := 10) hx hb dX3_placeOf_16 (by decide) ?_
    refine lv_irem hx hb dX3_placeOf_18 (by decide) ?_
    cases hf
    exact q_iret hx hb hr hlocks hw dX3_placeOf_19
  · have hf := iteT hf hc
    refine lv_iconst (v := (-1)) hx hb dX3_placeOf_11 (by decide) ?_
    refine lv_goto (tgt := 19) hx hb dX3_placeOf_12 (by decide) ?_
    cases hf
    exact q_iret hx hb hr hlocks hw dX3_placeOf_19

def f_X3_renumberWithout_l2    : Nat → RK → Int32 → Int32 → Option RK
  | 0, _, _, _ => none
  | n2 + 1, K, x1, x2 => (if 30 ≤ x2 then some K else nm (at_ 30 (K 8) x2) (fun r1 => bnd (f_X1_numberWithout x1 r1) (fun r2 => nm (upR K 8 (put_ 30 (K 8) x2 r2)) (fun K3 => nm (x2 + 1) (fun v4 => (f_X3_renumberWithout_l2 n2) K3 x1 v4)))))
def f_X3_renumberWithout (K : RK)  (a1 : Int32) : Option RK := f_X3_renumberWithout_l2 fuelN K a1 0
set_option maxHeartbeats 4000000 in
set_option maxRecDepth 100000 in
theorem c_X3_renumberWithout {l : Launch} {D : va_G} {cI cR : ClassId} {ad : Nat → Nat} {A : Nat → Prop} {O : XO} {K : RK} {K' : RK} {a1 : Int32}   (hf : f_X3_renumberWithout K a1 = some K') : MC l yX3_renumberWithout wsX3_renumberWithout 1 22 D cI cR A [.ref (ad 11), .int a1] (xws cI cR ad O K) none (xws cI cR ad O K') := by
  refine Met.ofW (cc := cX3_renumberWithout) (maxL := 3) (ret := none) (by decide) rfl ?_
  intro p e s m args below meth c s₁ B hml hv
  obtain ⟨rfl, hw⟩ := q_start hv
  have hx := B.exec
  have hb := B.bytes
  have hr := B.returns
  have hts := atoms_spec (ws := wsX3_renumberWithout) B.pre
  have hown : s.vm.findClass RX3 = some m.cls := findClass_of_methodNamed B.named
  have hlocks := B.notSynchronized
  have hiX3 : ∀ w ∈ wsX30, w ∈ wsX3_renumberWithout := by decide +kernel
  have hl := lv_entry ([.ref (ad 11), .int a1]) (n := 3) (Nat.le_of_ble_eq_true rfl)
  rw [lg_entry_eq]
  generalize (lg_sl ([.ref (ad 11), .int a1]) ++ List.replicate (3 - (lg_sl ([.ref (ad 11), .int a1])).length) Slot.unset).toArray = ls at hl ⊢
  have hl : lv_has ls 3 [(0, .ref (ad 11)), (1, .int a1)] := hl
  unfold f_X3_renumberWithout at hf
  obtain ⟨H, eH⟩ : ∃ H, H = s.heap := ⟨_, rfl⟩
  obtain ⟨locs, eL⟩ : ∃ L : List Loc, L = [] := ⟨_, rfl⟩
  rw [← eH, ← eL] at hw ⊢
  clear eH eL
  have L2 : ∀ (n2 : Nat) (K : RK) (x1 : Int32) (x2 : Int32) (H : Heap) (locs : List Loc) (ls : Array Slot), f_X3_renumberWithout_l2 n2 K x1 x2 = some K' → WH D cI cR A (xws cI cR ad O K) s H locs → lv_has ls 3 [(0, .ref (ad 11)), (1, .int x1), (2, .int x2)] → W p l e (headSpec wsX3_renumberWithout ({ frames := 1, cells := 0, slots := 0, locals := 22 })).room s m ([.ref (ad 11), .int a1] : List Value).toArray below meth c H locs 0 0 (MQ below (QV none D A (xws cI cR ad O K')) (([.ref (ad 11), .int a1] : List Value)).toArray s 0 0 A) (F0 m 2 ls []) := by
    intro n2
    induction n2 with
    | zero => intro K x1 x2 H locs ls hf; cases hf
    | succ n2 ih =>
      have ih2 := ih
      intro K x1 x2 H locs ls hf hw hl
      simp only [f_X3_renumberWithout_l2] at hf
      refine lv_iload_n hx hb dX3_renumberWithout_2 rfl (lv_at hl 2 rfl) ?_
      refine lv_aload_n hx hb dX3_renumberWithout_3 rfl (lv_at hl 0 rfl) ?_
      refine q_get hx hb hts hiX3 hown hw 11 xa_11 rfl 0 (by decide) (hts (.fieldLink RX3 9 "LaceRanks$Lines" "places" "[I") (by decide +kernel)) rfl dX3_renumberWithout_4 ?_
      refine q_alen (v := 30) hx hb hw 12 xa_12 rfl dX3_renumberWithout_7 ?_
      refine lv_icmp_ge (tgt := 37) hx hb dX3_renumberWithout_8 (by decide) (fun hc => ?_) (fun hc => ?_)
      · have hf := iteT hf hc
        cases hf
        exact q_vret hx hb hr hlocks hw dX3_renumberWithout_37
      · have hf := iteF hf hc
        refine lv_aload_n hx hb dX3_renumberWithout_11 rfl (lv_at hl 0 rfl) ?_
        refine q_get hx hb hts hiX3 hown hw 11 xa_11 rfl 0 (by decide) (hts (.fieldLink RX3 9 "LaceRanks$Lines" "places" "[I") (by decide +kernel)) rfl dX3_renumberWithout_12 ?_
        refine lv_iload_n hx hb dX3_renumberWithout_15 rfl (lv_at hl 2 rfl) ?_
        refine lv_iload_n hx hb dX3_renumberWithout_16 rfl (lv_at hl 1 rfl) ?_
        refine lv_aload_n hx hb dX3_renumberWithout_17 rfl (lv_at hl 0 rfl) ?_
        refine q_get hx hb hts hiX3 hown hw 11 xa_11 rfl 0 (by decide) (hts (.fieldLink RX3 9 "LaceRanks$Lines" "places" "[I") (by decide +kernel)) rfl dX3_renumberWithout_18 ?_
        refine lv_iload_n hx hb dX3_renumberWithout_21 rfl (lv_at hl 2 rfl) ?_
        obtain ⟨r1, hr1, hf⟩ := nmE hf
        refine q_callSN (rest := [.int x1, .int x2, .ref (ad 12)]) (st1 := [.int r1, .int x1, .int x2, .ref (ad 12)]) [.ref (ad 12), .int x2] ⟨hx, hb, hml, hown, hts⟩ (c_X5_at (q0 := 12) xa_12 hr1) ⟨va_cnB 2 hts gX3_renumberWithout_X5_at_n18 rfl rfl rfl (nw_X3_18 hw.2.2.2.2) (hts (.initialized RX5) (by decide +kernel)) (by decide +kernel) ⟨Nat.le_of_ble_eq_true rfl, Nat.le_of_ble_eq_true rfl⟩, (hts (.static yX5_at) (by decide +kernel)), trivial⟩ hw rfl hl.1 rfl (Nat.le_of_ble_eq_true rfl) dX3_renumberWithout_22 ⟨Nat.zero_le _, Nat.zero_le _⟩ rfl (fun H locs hw => ?_)
        obtain ⟨r2, hr2, hf⟩ := bndS hf
        refine q_callSN (rest := [.int x2, .ref (ad 12)]) (st1 := [.int r2, .int x2, .ref (ad 12)]) [.int x1, .int r1] ⟨hx, hb, hml, hown, hts⟩ (c_X1_numberWithout hr2) ⟨va_cnB 2 hts gX3_renumberWithout_X1_numberWithout_n34 rfl rfl rfl (nw_X3_34 hw.2.2.2.2) (hts (.initialized RX1) (by decide +kernel)) (by decide +kernel) ⟨Nat.le_of_ble_eq_true rfl, Nat.le_of_ble_eq_true rfl⟩, (hts (.static yX1_numberWithout) (by decide +kernel)), trivial⟩ hw rfl hl.1 rfl (Nat.le_of_ble_eq_true rfl) dX3_renumberWithout_25 ⟨Nat.zero_le _, Nat.zero_le _⟩ rfl (fun H locs hw => ?_)
        obtain ⟨K3, hK3, hf⟩ := nmE hf
        refine q_callSN (rest := []) (st1 := []) [.ref (ad 12), .int x2, .int r2] ⟨hx, hb, hml, hown, hts⟩ (c_X5_put (q0 := 12) xa_12 (xs_12.trans (congrArg (fun z => (xws cI cR ad O z)) hK3.symm))) ⟨va_cnB 3 hts gX3_renumberWithout_X5_put_n22 rfl rfl rfl (nw_X3_22 hw.2.2.2.2) (hts (.initialized RX5) (by decide +kernel)) (by decide +kernel) ⟨Nat.le_of_ble_eq_true rfl, Nat.le_of_ble_eq_true rfl⟩, (hts (.static yX5_put) (by decide +kernel)), trivial⟩ hw rfl hl.1 rfl (Nat.le_of_ble_eq_true rfl) dX3_renumberWithout_28 ⟨Nat.zero_le _, Nat.zero_le _⟩ rfl (fun H locs hw => ?_)
        obtain ⟨v4, hv4, hf⟩ := nmE hf
        refine lv_iinc (v := v4) (lv' := [(2, .int v4), (0, .ref (ad 11)), (1, .int x1)]) hx hb dX3_renumberWithout_31 hl (k := 2) rfl (by rw [hv4]; rfl) (by decide) rfl (fun ls hl => ?_)
        refine lv_goto (tgt := 2) hx hb dX3_renumberWithout_34 (by decide) ?_
        exact ih2 K3 x1 v4 H locs ls hf hw (lv_sub hl [1, 2, 0] rfl)
  refine lv_iconst (v := 0) hx hb dX3_renumberWithout_0 (by decide) ?_
  refine lv_istore_n (lv' := [(2, .int 0), (0, .ref (ad 11)), (1, .int a1)]) hx hb dX3_renumberWithout_1 rfl hl (by decide) rfl (fun ls hl => ?_)
  exact L2 fuelN K a1 0 H locs ls hf hw (lv_sub hl [1, 2, 0] rfl)

def f_X3_sendAllAway_l2    : Nat → RK → Int32 → Option RK
  | 0, _, _ => none
  | n2 + 1, K, x1 => (if 3 ≤ x1 then some K else nm (upR K 9 (put_ 3 (K 9) x1 0)) (fun K1 => nm (x1 + 1) (fun v2 => (f_X3_sendAllAway_l2 n2) K1 v2)))
def f_X3_sendAllAway (K : RK)   : Option RK := f_X3_sendAllAway_l2 fuelN K 0
set_option maxHeartbeats 4000000 in
set_option maxRecDepth 100000 in
theorem c_X3_sendAllAway {l : Launch} {D : va_G} {cI cR : ClassId} {ad : Nat → Nat} {A : Nat → Prop} {O : XO} {K : RK} {K' : RK}    (hf : f_X3_sendAllAway K = some K') : MC l yX3_sendAllAway wsX3_sendAllAway 1 22 D cI cR A [.ref (ad 11)] (xws cI cR ad O K) none (xws cI cR ad O K') := by
  refine Met.ofW (cc := cX3_sendAllAway) (maxL := 2) (ret := none) (by decide) rfl ?_
  intro p e s m args below meth c s₁ B hml hv
  obtain ⟨rfl, hw⟩ := q_start hv
  have hx := B.exec
  have hb := B.bytes
  have hr := B.returns
  have hts := atoms_spec (ws := wsX3_sendAllAway) B.pre
  have hown : s.vm.findClass RX3 = some m.cls := findClass_of_methodNamed B.named
  have hlocks := B.notSynchronized
  have hiX3 : ∀ w ∈ wsX30, w ∈ wsX3_sendAllAway := by decide +kernel
  have hl := lv_entry ([.ref (ad 11)]) (n := 2) (Nat.le_of_ble_eq_true rfl)
  rw [lg_entry_eq]
  generalize (lg_sl ([.ref (ad 11)]) ++ List.replicate (2 - (lg_sl ([.ref (ad 11)])).length) Slot.unset).toArray = ls at hl ⊢
  have hl : lv_has ls 2 [(0, .ref (ad 11))] := hl
  unfold f_X3_sendAllAway at hf
  obtain ⟨H, eH⟩ : ∃ H, H = s.heap := ⟨_, rfl⟩
  obtain ⟨locs, eL⟩ : ∃ L : List Loc, L = [] := ⟨_, rfl⟩
  rw [← eH, ← eL] at hw ⊢
  clear eH eL
  have L2 : ∀ (n2 : Nat) (K : RK) (x1 : Int32) (H : Heap) (locs : List Loc) (ls : Array Slot), f_X3_sendAllAway_l2 n2 K x1 = some K' → WH D cI cR A (xws cI cR ad O K) s H locs → lv_has ls 2 [(0, .ref (ad 11)), (1, .int x1)] → W p l e (headSpec wsX3_sendAllAway ({ frames := 1, cells := 0, slots := 0, locals := 22 })).room s m ([.ref (ad 11)] : List Value).toArray below meth c H locs 0 0 (MQ below (QV none D A (xws cI cR ad O K')) (([.ref (ad 11)] : List Value)).toArray s 0 0 A) (F0 m 2 ls []) := by
    intro n2
    induction n2 with
    | zero => intro K x1 H locs ls hf; cases hf
    | succ n2 ih =>
      have ih2 := ih
      intro K x1 H locs ls hf hw hl
      simp only [f_X3_sendAllAway_l2] at hf
      refine lv_iload_n hx hb dX3_sendAllAway_2 rfl (lv_at hl 1 rfl) ?_
      refine lv_iconst (v := 3) hx hb dX3_sendAllAway_3 (by decide) ?_
      refine lv_icmp_ge (tgt := 22) hx hb dX3_sendAllAway_4 (by decide) (fun hc => ?_) (fun hc => ?_)
      · have hf := iteT hf hc
        cases hf
        exact q_vret hx hb hr hlocks hw dX3_sendAllAway_22
      · have hf := iteF hf hc
        refine lv_aload_n hx hb dX3_sendAllAway_7 rfl (lv_at hl 0 rfl) ?_
        refine q_get hx hb hts hiX3 hown hw 11 xa_11 rfl 1 (by decide) (hts (.fieldLink RX3 15 "LaceRanks$Lines" "lengths" "[I") (by decide +kernel)) rfl dX3_sendAllAway_8 ?_
        refine lv_iload_n hx hb dX3_sendAllAway_11 rfl (lv_at hl 1 rfl) ?_
        refine lv_iconst (v := 0) hx hb dX3_sendAllAway_12 (by decide) ?_
        obtain ⟨K1, hK1, hf⟩ := nmE hf
        refine q_callSN (rest := []) (st1 := []) [.ref (ad 13), .int x1, .int 0] ⟨hx, hb, hml, hown, hts⟩ (c_X5_put (q0 := 13) xa_13 (xs_13.trans (congrArg (fun z => (xws cI cR ad O z)) hK1.symm))) ⟨va_cnB 3 hts gX3_sendAllAway_X5_put_n22 rfl rfl rfl (nw_X3_22 hw.2.2.2.2) (hts (.initialized RX5) (by decide +kernel)) (by decide +kernel) ⟨Nat.le_of_ble_eq_true rfl, Nat.le_of_ble_eq_true rfl⟩, (hts (.static yX5_put) (by decide +kernel)), trivial⟩ hw rfl hl.1 rfl (Nat.le_of_ble_eq_true rfl) dX3_sendAllAway_13 ⟨Nat.zero_le _, Nat.zero_le _⟩ rfl (fun H locs hw => ?_)
        obtain ⟨v2, hv2, hf⟩ := nmE hf
        refine lv_iinc (v := v2) (lv' := [(1, .int v2), (0, .ref (ad 11))]) hx hb dX3_sendAllAway_16 hl (k := 1) rfl (by rw [hv2]; rfl) (by decide) rfl (fun ls hl => ?_)
        refine lv_goto (tgt := 2) hx hb dX3_sendAllAway_19 (by decide) ?_
        exact ih2 K1 v2 H locs ls hf hw (lv_sub hl [1, 0] rfl)
  refine lv_iconst (v := 0) hx hb dX3_sendAllAway_0 (by decide) ?_
  refine lv_istore_n (lv' := [(1, .int 0), (0, .ref (ad 11))]) hx hb dX3_sendAllAway_1 rfl hl (by decide) rfl (fun ls hl => ?_)
  exact L2 fuelN K 0 H locs ls hf hw (lv_sub hl [1, 0] rfl)

def f_X5_sumOf_l4   (n : Nat) (f : Nat → Int32) : Nat → Int32 → Int32 → Int32 → Option Int32
  | 0, _, _, _ => none
  | n4 + 1, x1, x2, x3 => (if x1 ≤ x3 then some x2 else nm (at_ n f x3) (fun r1 => nm (x3 + 1) (fun v2 => (f_X5_sumOf_l4 n f n4) x1 (x2 + r1) v2)))
def f_X5_sumOf  (n : Nat) (f : Nat → Int32) (a1 : Int32) : Option Int32 := f_X5_sumOf_l4 n f fuelN a1 0 0
set_option maxHeartbeats 4000000 in
set_option maxRecDepth 100000 in
theorem c_X5_sumOf {l : Launch} {D : va_G} {cI cR : ClassId} {A : Nat → Prop} {w : va_W}  {a1 : Int32} {r : Int32} {a n q0 : Nat} {f : Nat → Int32} (he : w[q0]? = some (a, .inl (cI, n, .inl f))) (hn : n < 2 ^ 31) (hf : f_X5_sumOf n f a1 = some r) : MC l yX5_sumOf wsX5_sumOf 1 21 D cI cR A [.ref a, .int a1] w (some (.int r)) w := by
  refine Met.ofW (cc := cX5_sumOf) (maxL := 4) (ret := (some .int)) (by decide) rfl ?_
  intro p e s m args below meth c s₁ B hml hv
  obtain ⟨rfl, hw⟩ := q_start hv
  have hx := B.exec
  have hb := B.bytes
  have hr := B.returns
  have hts := atoms_spec (ws := wsX5_sumOf) B.pre
  have hown : s.vm.findClass RX5 = some m.cls := findClass_of_methodNamed B.named
  have hlocks := B.notSynchronized
  have hl := lv_entry ([.ref a, .int a1]) (n := 4) (Nat.le_of_ble_eq_true rfl)
  rw [lg_entry_eq]
  generalize (lg_sl ([.ref a, .int a1]) ++ List.replicate (4 - (lg_sl ([.ref a, .int a1])).length) Slot.unset).toArray = ls at hl ⊢
  have hl : lv_has ls 4 [(0, .ref a), (1, .int a1)] := hl
  unfold f_X5_sumOf at hf
  obtain ⟨H, eH⟩ : ∃ H, H = s.heap := ⟨_, rfl⟩
  obtain ⟨locs, eL⟩ : ∃ L : List Loc, L = [] := ⟨_, rfl⟩
  rw [← eH, ← eL] at hw ⊢
  clear eH eL
  have L4 : ∀ (n4 : Nat) (x1 : Int32) (x2 : Int32) (x3 : Int32) (H : Heap) (locs : List Loc) (ls : Array Slot), f_X5_sumOf_l4 n f n4 x1 x2 x3 = some r → WH D cI cR A w s H locs → lv_has ls 4 [(0, .ref a), (1, .int x1), (2, .int x2), (3, .int x3)] → W p l e (headSpec wsX5_sumOf ({ frames := 1, cells := 0, slots := 0, locals := 21 })).room s m ([.ref a, .int a1] : List Value).toArray below meth c H locs 0 0 (MQ below (QV (some (.int r)) D A w) (([.ref a, .int a1] : List Value)).toArray s 0 0 A) (F0 m 4 ls []) := by
    intro n4
    induction n4 with
    | zero => intro x1 x2 x3 H locs ls hf; cases hf
    | succ n4 ih =>
      have ih4 := ih
      intro x1 x2 x3 H locs ls hf hw hl
      simp only [f_X5_sumOf_l4] at hf
      refine lv_iload_n hx hb dX5_sumOf_4 rfl (lv_at hl 3 rfl) ?_
      refine lv_iload_n hx hb dX5_sumOf_5 rfl (lv_at hl 1 rfl) ?_
      refine lv_icmp_ge (tgt := 23) hx hb dX5_sumOf_6 (by decide) (fun hc => ?_) (fun hc => ?_)
      · have hf := iteT hf hc
        refine lv_iload_n hx hb dX5_sumOf_23 rfl (lv_at hl 2 rfl) ?_
        cases hf
        exact q_iret hx hb hr hlocks hw dX5_sumOf_24
      · have hf := iteF hf hc
        refine lv_iload_n hx hb dX5_sumOf_9 rfl (lv_at hl 2 rfl) ?_
        refine lv_aload_n hx hb dX5_sumOf_10 rfl (lv_at hl 0 rfl) ?_
        refine lv_iload_n hx hb dX5_sumOf_11 rfl (lv_at hl 3 rfl) ?_
        obtain ⟨r1, hr1, hf⟩ := nmE hf
        refine q_callS (rest := [.int x2]) (st1 := [.int r1, .int x2]) [.ref a, .int x3] ⟨hx, hb, hml, hown, hts⟩ (c_X5_at (q0 := q0) he hr1 hn) (va_cwS 2 hts gX5_sumOf_X5_at rfl rfl rfl (by decide +kernel) ⟨Nat.le_of_ble_eq_true rfl, Nat.le_of_ble_eq_true rfl⟩) hw rfl hl.1 rfl (Nat.le_of_ble_eq_true rfl) dX5_sumOf_12 ⟨Nat.zero_le _, Nat.zero_le _⟩ rfl (fun H locs hw => ?_)
        refine lv_iadd hx hb dX5_sumOf_15 ?_
        refine lv_istore_n (lv' := [(2, .int (x2 + r1)), (0, .ref a), (1, .int x1), (3, .int x3)]) hx hb dX5_sumOf_16 rfl hl (by decide) rfl (fun ls hl => ?_)
        obtain ⟨v2, hv2, hf⟩ := nmE hf
        refine lv_iinc (v := v2) (lv' := [(3, .int v2), (2, .int (x2 + r1)), (0, .ref a), (1, .int x1)]) hx hb dX5_sumOf_17 hl (k := 3) rfl (by rw [hv2]; rfl) (by decide) rfl (fun ls hl => ?_)
        refine lv_goto (tgt := 4) hx hb dX5_sumOf_20 (by decide) ?_
        exact ih4 x1 (x2 + r1) v2 H locs ls hf hw (lv_sub hl [2, 3, 1, 0] rfl)
  refine lv_iconst (v := 0) hx hb dX5_sumOf_0 (by decide) ?_
  refine lv_istore_n (lv' := [(2, .int 0), (0, .ref a), (1, .int a1)]) hx hb dX5_sumOf_1 rfl hl (by decide) rfl (fun ls hl => ?_)
  refine lv_iconst (v := 0) hx hb dX5_sumOf_2 (by decide) ?_
  refine lv_istore_n (lv' := [(3, .int 0), (2, .int 0), (0, .ref a), (1, .int a1)]) hx hb dX5_sumOf_3 rfl hl (by decide) rfl (fun ls hl => ?_)
  exact L4 fuelN a1 0 0 H locs ls hf hw (lv_sub hl [2, 3, 1, 0] rfl)

def f_X5_isWithin   (a0 : Int32) (a1 : Int32) (a2 : Int32) : Option Int32 := (if a0 < a1 then some 0 else (if a2 < a0 then some 0 else some 1))
set_option maxHeartbeats 4000000 in
set_option maxRecDepth 100000 in
theorem c_X5_isWithin {l : Launch} {D : va_G} {cI cR : ClassId} {A : Nat → Prop} {w : va_W}  {a0 : Int32} {a1 : Int32} {a2 : Int32} {r : Int32}  (hf : f_X5_isWithin a0 a1 a2 = some r) : MC l yX5_isWithin wsX5_isWithin 0 0 D cI cR A [.int a0, .int a1, .int a2] w (some (.int r)) w := by
  refine Met.ofW (cc := cX5_isWithin) (maxL := 3) (ret := (some .boolean)) (by decide) rfl ?_
  intro p e s m args below meth c s₁ B hml hv
  obtain ⟨rfl, hw⟩ := q_start hv
  have hx := B.exec
  have hb := B.bytes
  have hr := B.returns
  have hts := atoms_spec (ws := wsX5_isWithin) B.pre
  have hown : s.vm.findClass RX5 = some m.cls := findClass_of_methodNamed B.named
  have hlocks := B.notSynchronized
  have hl := lv_entry ([.int a0, .int a1, .int a2]) (n := 3) (Nat.le_of_ble_eq_true rfl)
  rw [lg_entry_eq]
  generalize (lg_sl ([.int a0, .int a1, .int a2]) ++ List.replicate (3 - (lg_sl ([.int a0, .int a1, .int a2])).length) Slot.unset).toArray = ls at hl ⊢
  have hl : lv_has ls 3 [(0, .int a0), (1, .int a1), (2, .int a2)] := hl
  unfold f_X5_isWithin at hf
  obtain ⟨H, eH⟩ : ∃ H, H = s.heap := ⟨_, rfl⟩
  obtain ⟨locs, eL⟩ : ∃ L : List Loc, L = [] := ⟨_, rfl⟩
  rw [← eH, ← eL] at hw ⊢
  clear eH eL
  refine lv_iload_n hx hb dX5_isWithin_0 rfl (lv_at hl 0 rfl) ?_
  refine lv_iload_n hx hb dX5_isWithin_1 rfl (lv_at hl 1 rfl) ?_
  refine lv_icmp_lt (tgt := 14) hx hb dX5_isWithin_2 (by decide) (fun hc => ?_) (fun hc => ?_)
  · have hf := iteT hf hc
    refine lv_iconst (v := 0) hx hb dX5_isWithin_14 (by decide) ?_
    cases hf
    exact q_zret hx hb hr nb_0 hlocks hw dX5_isWithin_15
  · have hf := iteF hf hc
    refine lv_iload_n hx hb dX5_isWithin_5 rfl (lv_at hl 0 rfl) ?_
    refine lv_iload_n hx hb dX5_isWithin_6 rfl (lv_at hl 2 rfl) ?_
    refine lv_icmp_gt (tgt := 14) hx hb dX5_isWithin_7 (by decide) (fun hc => ?_) (fun hc => ?_)
    · have hf := iteT hf hc
      refine lv_iconst (v := 0) hx hb dX5_isWithin_14 (by decide) ?_
      cases hf
      exact q_zret hx hb hr nb_0 hlocks hw dX5_isWithin_15
    · have hf := iteF hf hc
      refine lv_iconst (v := 1) hx hb dX5_isWithin_10 (by decide) ?_
      refine lv_goto (tgt := 15) hx hb dX5_isWithin_11 (by decide) ?_
      cases hf
      exact q_zret hx hb hr nb_1 hlocks hw dX5_isWithin_15

theorem bz_X5_isWithin {a b c r : Int32} (h : f_X5_isWithin a b c = some r) : narrow .boolean (.int r) = .int r := by
  unfold f_X5_isWithin at h
  repeat' split at h
  all_goals (cases h; first | exact nb_0 | exact nb_1)

def f_X5_isGate   (a0 : Int32) : Option Int32 := bnd (f_X5_isWithin a0 0 2) (fun r1 => some r1)
set_option maxHeartbeats 4000000 in
set_option maxRecDepth 100000 in
theorem c_X5_isGate {l : Launch} {D : va_G} {cI cR : ClassId} {A : Nat → Prop} {w : va_W}  {a0 : Int32} {r : Int32}  (hf : f_X5_isGate a0 = some r) : MC l yX5_isGate wsX5_isGate 1 22 D cI cR A [.int a0] w (some (.int r)) w := by
  refine Met.ofW (cc := cX5_isGate) (maxL := 1) (ret := (some .boolean)) (by decide) rfl ?_
  intro p e s m args below meth c s₁ B hml hv
  obtain ⟨rfl, hw⟩ := q_start hv
  have hx := B.exec
  have hb := B.bytes
  have hr := B.returns
  have hts := atoms_spec (ws := wsX5_isGate) B.pre
  have hown : s.vm.findClass RX5 = some m.cls := findClass_of_methodNamed B.named
  have hlocks := B.notSynchronized
  have hl := lv_entry ([.int a0]) (n := 1) (Nat.le_of_ble_eq_true rfl)
  rw [lg_entry_eq]
  generalize (lg_sl ([.int a0]) ++ List.replicate (1 - (lg_sl ([.int a0])).length) Slot.unset).toArray = ls at hl ⊢
  have hl : lv_has ls 1 [(0, .int a0)] := hl
  unfold f_X5_isGate at hf
  obtain ⟨H, eH⟩ : ∃ H, H = s.heap := ⟨_, rfl⟩
  obtain ⟨locs, eL⟩ : ∃ L : List Loc, L = [] := ⟨_, rfl⟩
  rw [← eH, ← eL] at hw ⊢
  clear eH eL
  refine lv_iload_n hx hb dX5_isGate_0 rfl (lv_at hl 0 rfl) ?_
  refine lv_iconst (v := 0) hx hb dX5_isGate_1 (by decide) ?_
  refine lv_iconst (v := 2) hx hb dX5_isGate_2 (by decide) ?_
  obtain ⟨r1, hr1, hf⟩ := bndS hf
  refine q_callS (rest := []) (st1 := [.int r1]) [.int a0, .int 0, .int 2] ⟨hx, hb, hml, hown, hts⟩ (c_X5_isWithin hr1) (va_cwS 3 hts gX5_isGate_X5_isWithin rfl rfl rfl (by decide +kernel) ⟨Nat.le_of_ble_eq_true rfl, Nat.le_of_ble_eq_true rfl⟩) hw rfl hl.1 rfl (Nat.le_of_ble_eq_true rfl) dX5_isGate_3 ⟨Nat.zero_le _, Nat.zero_le _⟩ rfl (fun H locs hw => ?_)
  cases hf
  exact q_zret hx hb hr (bz_X5_isWithin hr1) hlocks hw dX5_isGate_6
