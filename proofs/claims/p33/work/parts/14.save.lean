def st_ix (O : XO) (a : Int32) : Int32 := (O 8 0 1 + a) - (O 8 0 1 + a) / 6 * 6
theorem ringA (ad : Nat → Nat) (i : Int32) : va_rf (ringf ad i.toNatClampNeg) = .ref (ad (31 + 14 * i.toNatClampNeg)) := rfl
set_option maxHeartbeats 4000000 in
set_option maxRecDepth 100000 in
theorem c_X2_stateAt {l : Launch} {D : va_G} {cI cR : ClassId} {ad : Nat → Nat} {A : Nat → Prop} {O : XO} {K : RK} {a1 i : Int32} (hi : i = st_ix O a1) (hg : inb i 6 = true) : MC l yX2_stateAt wsX2_stateAt 0 0 D cI cR A [.ref (ad 29), .int a1] (xws cI cR ad O K) (some (.ref (ad (31 + 14 * i.toNatClampNeg)))) (xws cI cR ad O K) := by
  refine Met.ofW (cc := cX2_stateAt) (maxL := 3) (ret := (some (.object "LaceRanks$Carnival"))) (by decide) rfl ?_
  intro p e s m args below meth c s₁ B hml hv
  obtain ⟨rfl, hw⟩ := q_start hv
  have hx := B.exec
  have hb := B.bytes
  have hr := B.returns
  have hts := atoms_spec (ws := wsX2_stateAt) B.pre
  have hown : s.vm.findClass RX2 = some m.cls := findClass_of_methodNamed B.named
  have hlocks := B.notSynchronized
  have hiX2 : ∀ w ∈ wsX20, w ∈ wsX2_stateAt := by decide +kernel
  have hl := lv_entry ([.ref (ad 29), .int a1]) (n := 3) (Nat.le_of_ble_eq_true rfl)
  rw [lg_entry_eq]
  generalize (lg_sl ([.ref (ad 29), .int a1]) ++ List.replicate (3 - (lg_sl ([.ref (ad 29), .int a1])).length) Slot.unset).toArray = ls at hl ⊢
  have hl : lv_has ls 3 [(0, .ref (ad 29)), (1, .int a1)] := hl
  have hin : vp_in i 6 := inb_in hg
  have h0 : ¬ i < 0 := fun h => hin (Or.inl h)
  have h6 : ¬ (6 : Int32) ≤ i := by
    rw [vp_in_iff] at hin
    rw [Int32.le_iff_toInt_le]
    have : (6 : Int32).toInt = 6 := by decide
    omega
  refine lv_aload_n hx hb dX2_stateAt_0 rfl (lv_at hl 0 rfl) ?_
  refine q_get hx hb hts hiX2 hown hw 29 xa_29 rfl 1 (by decide) (hts (.fieldLink RX2 22 "LaceRanks$History" "oldest" "I") (by decide +kernel)) rfl dX2_stateAt_1 ?_
  refine lv_iload_n hx hb dX2_stateAt_4 rfl (lv_at hl 1 rfl) ?_
  refine lv_iadd hx hb dX2_stateAt_5 ?_
  refine lv_bipush (v := 6) hx hb dX2_stateAt_6 (by decide) ?_
  refine lv_irem hx hb dX2_stateAt_8 (by decide) ?_
  refine q_is (y := i) hi ?_
  refine lv_istore_n (lv' := [(2, .int i), (0, .ref (ad 29)), (1, .int a1)]) hx hb dX2_stateAt_9 rfl hl (by decide) rfl (fun ls hl => ?_)
  refine lv_iload_n hx hb dX2_stateAt_10 rfl (lv_at hl 0 rfl) ?_
  refine lv_if_lt (tgt := 32) hx hb dX2_stateAt_11 (by decide) (fun hc => absurd hc h0) (fun hc => ?_)
  refine lv_iload_n hx hb dX2_stateAt_14 rfl (lv_at hl 0 rfl) ?_
  refine lv_aload_n hx hb dX2_stateAt_15 rfl (lv_at hl 1 rfl) ?_
  refine q_get hx hb hts hiX2 hown hw 29 xa_29 rfl 0 (by decide) (hts (.fieldLink RX2 11 "LaceRanks$History" "ring" "[LLaceRanks$Carnival;") (by decide +kernel)) rfl dX2_stateAt_16 ?_
  refine va_alen (v := 6) hx hb hw.2.1 hw.1 30 1 xa_30 rfl rfl dX2_stateAt_19 ?_
  refine lv_icmp_ge (tgt := 32) hx hb dX2_stateAt_20 (by decide) (fun hc => absurd hc h6) (fun hc => ?_)
  refine lv_aload_n hx hb dX2_stateAt_23 rfl (lv_at hl 1 rfl) ?_
  refine q_get hx hb hts hiX2 hown hw 29 xa_29 rfl 0 (by decide) (hts (.fieldLink RX2 11 "LaceRanks$History" "ring" "[LLaceRanks$Carnival;") (by decide +kernel)) rfl dX2_stateAt_24 ?_
  refine lv_iload_n hx hb dX2_stateAt_27 rfl (lv_at hl 0 rfl) ?_
  refine va_aldq hx hb hw.2.1 hw.1 30 1 xa_30 rfl hin dX2_stateAt_28 ?_
  rw [ringA]
  refine lv_goto (tgt := 33) hx hb dX2_stateAt_29 (by decide) ?_
  exact W.aret hx hb hr (Or.inl ⟨_, rfl⟩) (Or.inr ⟨_, rfl⟩) (fun t ht _ => ⟨rfl, by rw [ht]; exact hw.1, hw.2.2.1, hw.2.2.2.1.F ht⟩) hw.2.2.2.1.2.2 dX2_stateAt_33 hlocks
theorem ring_lt {i : Int32} (h : inb i 6 = true) : i.toNatClampNeg < 6 := by
  simp only [inb, Bool.and_eq_true, decide_eq_true_eq] at h
  exact h.2
def f_X2_save_b32  (K : RK)  (O : XO) : Option XO := nm (st_ix O (O 8 0 2)) (fun r1 => gd (inb r1 6) (nm (upB O (r1.toNatClampNeg + 2) K) (fun O2 => nm (upOS O2 0 2 ((O2 8 0 2) + 1)) (fun O3 => some O3))))
def f_X2_save (O : XO) (K : RK)   : Option XO := (if (O 8 0 2) = 6 then nm (upOS O 0 1 (((O 8 0 1) + 1) - ((O 8 0 1) + 1) / 6 * 6)) (fun O1 => nm (upOS O1 0 2 ((O1 8 0 2) - 1)) (fun O2 => f_X2_save_b32 K O2)) else f_X2_save_b32 K O)
set_option maxHeartbeats 4000000 in
set_option maxRecDepth 100000 in
theorem c_X2_save {l : Launch} {D : va_G} {cI cR : ClassId} {ad : Nat → Nat} {A : Nat → Prop} {O : XO} {K : RK} {O' : XO}    (hf : f_X2_save O K = some O') : MC l yX2_save wsX2_save 4 83 D cI cR A [.ref (ad 29), .ref (ad 1)] (xws cI cR ad O K) none (xws cI cR ad O' K) := by
  refine Met.ofW (cc := cX2_save) (maxL := 3) (ret := none) (by decide) rfl ?_
  intro p e s m args below meth c s₁ B hml hv
  obtain ⟨rfl, hw⟩ := q_start hv
  have hx := B.exec
  have hb := B.bytes
  have hr := B.returns
  have hts := atoms_spec (ws := wsX2_save) B.pre
  have hown : s.vm.findClass RX2 = some m.cls := findClass_of_methodNamed B.named
  have hlocks := B.notSynchronized
  have hiX2 : ∀ w ∈ wsX20, w ∈ wsX2_save := by decide +kernel
  have hl := lv_entry ([.ref (ad 29), .ref (ad 1)]) (n := 3) (Nat.le_of_ble_eq_true rfl)
  rw [lg_entry_eq]
  generalize (lg_sl ([.ref (ad 29), .ref (ad 1)]) ++ List.replicate (3 - (lg_sl ([.ref (ad 29), .ref (ad 1)])).length) Slot.unset).toArray = ls at hl ⊢
  have hl : lv_has ls 3 [(0, .ref (ad 29)), (1, .ref (ad 1))] := hl
  unfold f_X2_save at hf
  obtain ⟨H, eH⟩ : ∃ H, H = s.heap := ⟨_, rfl⟩
  obtain ⟨locs, eL⟩ : ∃ L : List Loc, L = [] := ⟨_, rfl⟩
  rw [← eH, ← eL] at hw ⊢
  clear eH eL
  have B32 : ∀ (O : XO) (H : Heap) (locs : List Loc) (ls : Array Slot), f_X2_save_b32 K O = some O' → WH D cI cR A (xws cI cR ad O K) s H locs → lv_has ls 3 [(0, .ref (ad 29)), (1, .ref (ad 1))] → W p l e (headSpec wsX2_save ({ frames := 4, cells := 0, slots := 0, locals := 83 })).room s m ([.ref (ad 29), .ref (ad 1)] : List Value).toArray below meth c H locs 0 0 (MQ below (QV none D A (xws cI cR ad O' K)) (([.ref (ad 29), .ref (ad 1)] : List Value)).toArray s 0 0 A) (F0 m 32 ls []) := by
    intro O H locs ls hf hw hl
    unfold f_X2_save_b32 at hf
    refine lv_aload_n hx hb dX2_save_32 rfl (lv_at hl 0 rfl) ?_
    refine lv_aload_n hx hb dX2_save_33 rfl (lv_at hl 0 rfl) ?_
    refine q_get hx hb hts hiX2 hown hw 29 xa_29 rfl 2 (by decide) (hts (.fieldLink RX2 18 "LaceRanks$History" "size" "I") (by decide +kernel)) rfl dX2_save_34 ?_
    obtain ⟨r1, hr1, hf⟩ := nmE hf
    obtain ⟨hgr1, hf⟩ := gdE hf
    refine q_callV (rest := []) (st1 := [.ref (ad (31 + 14 * r1.toNatClampNeg))]) [.int (O 8 0 2)] ⟨hx, hb, hml, hown, hts⟩ (c_X2_stateAt hr1 hgr1) (cwV 1 hts gX2_save_X2_stateAt rfl rfl rfl (by decide +kernel) ⟨Nat.le_of_ble_eq_true rfl, Nat.le_of_ble_eq_true rfl⟩) hw xa_29 rfl rfl hl.1 rfl (Nat.le_of_ble_eq_true rfl) dX2_save_37 ⟨Nat.zero_le _, Nat.zero_le _⟩ rfl (fun H locs hw => ?_)
    refine lv_astore_n (lv' := [(2, .ref (ad (31 + 14 * r1.toNatClampNeg))), (0, .ref (ad 29)), (1, .ref (ad 1))]) hx hb dX2_save_40 rfl hl (by decide) rfl (fun ls hl => ?_)
    refine lv_aload_n hx hb dX2_save_41 rfl (lv_at hl 0 rfl) ?_
    refine lv_ifnull hx hb dX2_save_42 ?_
    refine lv_aload_n hx hb dX2_save_45 rfl (lv_at hl 0 rfl) ?_
    refine lv_aload_n hx hb dX2_save_46 rfl (lv_at hl 2 rfl) ?_
    obtain ⟨O2, hO2, hf⟩ := nmE hf
    obtain ⟨z1, z2, hz⟩ := xw_ring (cI := cI) (cR := cR) (ad := ad) (O := O) (ring_lt hgr1)
    refine q_copySD (w := xws cI cR ad O K) (w' := xws cI cR ad O2 K) (od := 31 + 14 * r1.toNatClampNeg) (os := 1) (rest := []) ⟨hx, hb, hml, hown, hts⟩ ⟨va_cnB 1 hts gX2_save_X0_copyState_n29 rfl rfl rfl (nw_X2_29 hw.2.2.2.2) (hts (.initialized RX0) (by decide +kernel)) (by decide +kernel) ⟨Nat.le_of_ble_eq_true rfl, Nat.le_of_ble_eq_true rfl⟩, (hts (.instanceMethod yX0_copyState) (by decide +kernel)), (hts (.selects RX0 yX0_copyState yX0_copyState) (by decide +kernel))⟩ (by have h := hz K (O (r1.toNatClampNeg + 2)); rw [upB_id] at h; exact h) (by rw [hO2]; exact hz K K) hw hl.1 rfl (Nat.le_of_ble_eq_true rfl) dX2_save_47 ⟨Nat.zero_le _, Nat.zero_le _⟩ (fun H locs hw => ?_)
    refine lv_aload_n hx hb dX2_save_50 rfl (lv_at hl 1 rfl) ?_
    refine lv_dup hx hb dX2_save_51 rfl ?_
    refine q_get hx hb hts hiX2 hown hw 29 xa_29 rfl 2 (by decide) (hts (.fieldLink RX2 18 "LaceRanks$History" "size" "I") (by decide +kernel)) rfl dX2_save_52 ?_
    refine lv_iconst (v := 1) hx hb dX2_save_55 (by decide) ?_
    refine lv_iadd hx hb dX2_save_56 ?_
    obtain ⟨O3, hO3, hf⟩ := nmE hf
    refine q_put (ty := .int) hx hb hts hiX2 tyX2 tyX2_ok nmX2 hown hw 29 xa_29 rfl 2 (by decide) (hts (.fieldLink RX2 18 "LaceRanks$History" "size" "I") (by decide +kernel)) rfl (by decide +kernel) rfl rfl (Nat.le_of_ble_eq_true rfl) dX2_save_57 (xs_29_2.trans (congrArg (fun z => (xws cI cR ad z K)) hO3.symm)) (fun H locs hw => ?_)
    cases hf
    exact q_vret hx hb hr hlocks hw dX2_save_60
  refine lv_aload_n hx hb dX2_save_0 rfl (lv_at hl 0 rfl) ?_
  refine q_get hx hb hts hiX2 hown hw 29 xa_29 rfl 2 (by decide) (hts (.fieldLink RX2 18 "LaceRanks$History" "size" "I") (by decide +kernel)) rfl dX2_save_1 ?_
  refine lv_bipush (v := 6) hx hb dX2_save_4 (by decide) ?_
  refine lv_icmp_ne (tgt := 32) hx hb dX2_save_6 (by decide) (fun hc => ?_) (fun hc => ?_)
  · have hf := iteF hf hc
    exact B32 O H locs ls hf hw (lv_sub hl [0, 1] rfl)
  · have hf := iteT hf hc
    refine lv_aload_n hx hb dX2_save_9 rfl (lv_at hl 0 rfl) ?_
    refine lv_aload_n hx hb dX2_save_10 rfl (lv_at hl 0 rfl) ?_
    refine q_get hx hb hts hiX2 hown hw 29 xa_29 rfl 1 (by decide) (hts (.fieldLink RX2 22 "LaceRanks$History" "oldest" "I") (by decide +kernel)) rfl dX2_save_11 ?_
    refine lv_iconst (v := 1) hx hb dX2_save_14 (by decide) ?_
    refine lv_iadd hx hb dX2_save_15 ?_
    refine lv_bipush (v := 6) hx hb dX2_save_16 (by decide) ?_
    refine lv_irem hx hb dX2_save_18 (by decide) ?_
    obtain ⟨O1, hO1, hf⟩ := nmE hf
    refine q_put (ty := .int) hx hb hts hiX2 tyX2 tyX2_ok nmX2 hown hw 29 xa_29 rfl 1 (by decide) (hts (.fieldLink RX2 22 "LaceRanks$History" "oldest" "I") (by decide +kernel)) rfl (by decide +kernel) rfl rfl (Nat.le_of_ble_eq_true rfl) dX2_save_19 (xs_29_1.trans (congrArg (fun z => (xws cI cR ad z K)) hO1.symm)) (fun H locs hw => ?_)
    refine lv_aload_n hx hb dX2_save_22 rfl (lv_at hl 0 rfl) ?_
    refine lv_dup hx hb dX2_save_23 rfl ?_
    refine q_get hx hb hts hiX2 hown hw 29 xa_29 rfl 2 (by decide) (hts (.fieldLink RX2 18 "LaceRanks$History" "size" "I") (by decide +kernel)) rfl dX2_save_24 ?_
    refine lv_iconst (v := 1) hx hb dX2_save_27 (by decide) ?_
    refine lv_isub hx hb dX2_save_28 ?_
    obtain ⟨O2, hO2, hf⟩ := nmE hf
    refine q_put (ty := .int) hx hb hts hiX2 tyX2 tyX2_ok nmX2 hown hw 29 xa_29 rfl 2 (by decide) (hts (.fieldLink RX2 18 "LaceRanks$History" "size" "I") (by decide +kernel)) rfl (by decide +kernel) rfl rfl (Nat.le_of_ble_eq_true rfl) dX2_save_29 (xs_29_2.trans (congrArg (fun z => (xws cI cR ad z K)) hO2.symm)) (fun H locs hw => ?_)
    exact B32 O2 H locs ls hf hw (lv_sub hl [0, 1] rfl)

def f_X2_bringBack (O : XO) (K : RK)   : Option (XO × RK) := nm (st_ix O ((O 8 0 2) - 1)) (fun r1 => gd (inb r1 6) (nm (O (r1.toNatClampNeg + 2)) (fun K2 => nm (upOS O 0 2 ((O 8 0 2) - 1)) (fun O3 => some (O3, K2)))))
set_option maxHeartbeats 4000000 in
set_option maxRecDepth 100000 in
theorem c_X2_bringBack {l : Launch} {D : va_G} {cI cR : ClassId} {ad : Nat → Nat} {A : Nat → Prop} {O : XO} {K : RK} {O' : XO} {K' : RK}    (hf : f_X2_bringBack O K = some (O', K')) : MC l yX2_bringBack wsX2_bringBack 4 83 D cI cR A [.ref (ad 29), .ref (ad 1)] (xws cI cR ad O K) none (xws cI cR ad O' K') := by
  refine Met.ofW (cc := cX2_bringBack) (maxL := 3) (ret := none) (by decide) rfl ?_
  intro p e s m args below meth c s₁ B hml hv
  obtain ⟨rfl, hw⟩ := q_start hv
  have hx := B.exec
  have hb := B.bytes
  have hr := B.returns
  have hts := atoms_spec (ws := wsX2_bringBack) B.pre
  have hown : s.vm.findClass RX2 = some m.cls := findClass_of_methodNamed B.named
  have hlocks := B.notSynchronized
  have hiX2 : ∀ w ∈ wsX20, w ∈ wsX2_bringBack := by decide +kernel
  have hl := lv_entry ([.ref (ad 29), .ref (ad 1)]) (n := 3) (Nat.le_of_ble_eq_true rfl)
  rw [lg_entry_eq]
  generalize (lg_sl ([.ref (ad 29), .ref (ad 1)]) ++ List.replicate (3 - (lg_sl ([.ref (ad 29), .ref (ad 1)])).length) Slot.unset).toArray = ls at hl ⊢
  have hl : lv_has ls 3 [(0, .ref (ad 29)), (1, .ref (ad 1))] := hl
  unfold f_X2_bringBack at hf
  obtain ⟨H, eH⟩ : ∃ H, H = s.heap := ⟨_, rfl⟩
  obtain ⟨locs, eL⟩ : ∃ L : List Loc, L = [] := ⟨_, rfl⟩
  rw [← eH, ← eL] at hw ⊢
  clear eH eL
  refine lv_aload_n hx hb dX2_bringBack_0 rfl (lv_at hl 0 rfl) ?_
  refine lv_aload_n hx hb dX2_bringBack_1 rfl (lv_at hl 0 rfl) ?_
  refine q_get hx hb hts hiX2 hown hw 29 xa_29 rfl 2 (by decide) (hts (.fieldLink RX2 18 "LaceRanks$History" "size" "I") (by decide +kernel)) rfl dX2_bringBack_2 ?_
  refine lv_iconst (v := 1) hx hb dX2_bringBack_5 (by decide) ?_
  refine lv_isub hx hb dX2_bringBack_6 ?_
  obtain ⟨r1, hr1, hf⟩ := nmE hf
  obtain ⟨hgr1, hf⟩ := gdE hf
  refine q_callV (rest := []) (st1 := [.ref (ad (31 + 14 * r1.toNatClampNeg))]) [.int ((O 8 0 2) - 1)] ⟨hx, hb, hml, hown, hts⟩ (c_X2_stateAt hr1 hgr1) (cwV 1 hts gX2_bringBack_X2_stateAt rfl rfl rfl (by decide +kernel) ⟨Nat.le_of_ble_eq_true rfl, Nat.le_of_ble_eq_true rfl⟩) hw xa_29 rfl rfl hl.1 rfl (Nat.le_of_ble_eq_true rfl) dX2_bringBack_7 ⟨Nat.zero_le _, Nat.zero_le _⟩ rfl (fun H locs hw => ?_)
  refine lv_astore_n (lv' := [(2, .ref (ad (31 + 14 * r1.toNatClampNeg))), (0, .ref (ad 29)), (1, .ref (ad 1))]) hx hb dX2_bringBack_10 rfl hl (by decide) rfl (fun ls hl => ?_)
  refine lv_aload_n hx hb dX2_bringBack_11 rfl (lv_at hl 0 rfl) ?_
  refine lv_ifnull hx hb dX2_bringBack_12 ?_
  refine lv_aload_n hx hb dX2_bringBack_15 rfl (lv_at hl 2 rfl) ?_
  refine lv_aload_n hx hb dX2_bringBack_16 rfl (lv_at hl 0 rfl) ?_
  obtain ⟨K2, hK2, hf⟩ := nmE hf
  obtain ⟨z1, z2, hz⟩ := xw_ring (cI := cI) (cR := cR) (ad := ad) (O := O) (ring_lt hgr1)
  refine q_copyDS (w := xws cI cR ad O K) (w' := xws cI cR ad O K2) (od := 1) (os := 31 + 14 * r1.toNatClampNeg) (rest := []) ⟨hx, hb, hml, hown, hts⟩ ⟨va_cnB 1 hts gX2_bringBack_X0_copyState_n29 rfl rfl rfl (nw_X2_29 hw.2.2.2.2) (hts (.initialized RX0) (by decide +kernel)) (by decide +kernel) ⟨Nat.le_of_ble_eq_true rfl, Nat.le_of_ble_eq_true rfl⟩, (hts (.instanceMethod yX0_copyState) (by decide +kernel)), (hts (.selects RX0 yX0_copyState yX0_copyState) (by decide +kernel))⟩ (by have h := hz K (O (r1.toNatClampNeg + 2)); rw [upB_id] at h; exact h) (by have h := hz K2 (O (r1.toNatClampNeg + 2)); rw [upB_id] at h; rw [h, hK2]) hw hl.1 rfl (Nat.le_of_ble_eq_true rfl) dX2_bringBack_17 ⟨Nat.zero_le _, Nat.zero_le _⟩ (fun H locs hw => ?_)
  refine lv_aload_n hx hb dX2_bringBack_20 rfl (lv_at hl 1 rfl) ?_
  refine lv_dup hx hb dX2_bringBack_21 rfl ?_
  refine q_get hx hb hts hiX2 hown hw 29 xa_29 rfl 2 (by decide) (hts (.fieldLink RX2 18 "LaceRanks$History" "size" "I") (by decide +kernel)) rfl dX2_bringBack_22 ?_
  refine lv_iconst (v := 1) hx hb dX2_bringBack_25 (by decide) ?_
  refine lv_isub hx hb dX2_bringBack_26 ?_
  obtain ⟨O3, hO3, hf⟩ := nmE hf
  refine q_put (ty := .int) hx hb hts hiX2 tyX2 tyX2_ok nmX2 hown hw 29 xa_29 rfl 2 (by decide) (hts (.fieldLink RX2 18 "LaceRanks$History" "size" "I") (by decide +kernel)) rfl (by decide +kernel) rfl rfl (Nat.le_of_ble_eq_true rfl) dX2_bringBack_27 (xs_29_2.trans (congrArg (fun z => (xws cI cR ad z K2)) hO3.symm)) (fun H locs hw => ?_)
  cases hf
  exact q_vret hx hb hr hlocks hw dX2_bringBack_30

def f_X5_keep (O : XO) (K : RK)   : Option (Int32 × XO) := nm (upB O 1 K) (fun O1 => nm (upOS O1 0 0 1) (fun O2 => some (K 11 0, O2)))
set_option maxHeartbeats 4000000 in
set_option maxRecDepth 100000 in
theorem c_X5_keep {l : Launch} {D : va_G} {cI cR : ClassId} {ad : Nat → Nat} {A : Nat → Prop} {O : XO} {K : RK} {O' : XO}  {r : Int32}  (hf : f_X5_keep O K = some (r, O')) : MC l yX5_keep wsX5_keep 4 83 D cI cR A [.ref (ad 0)] (xws cI cR ad O K) (some (.int r)) (xws cI cR ad O' K) := by
  refine Met.ofW (cc := cX5_keep) (maxL := 1) (ret := (some .int)) (by decide) rfl ?_
  intro p e s m args below meth c s₁ B hml hv
  obtain ⟨rfl, hw⟩ := q_start hv
  have hx := B.exec
  have hb := B.bytes
  have hr := B.returns
  have hts := atoms_spec (ws := wsX5_keep) B.pre
  have hown : s.vm.findClass RX5 = some m.cls := findClass_of_methodNamed B.named
  have hlocks := B.notSynchronized
  have hiX0 : ∀ w ∈ wsX00, w ∈ wsX5_keep := by decide +kernel
  have hiX5 : ∀ w ∈ wsX50, w ∈ wsX5_keep := by decide +kernel
  have hl := lv_entry ([.ref (ad 0)]) (n := 1) (Nat.le_of_ble_eq_true rfl)
  rw [lg_entry_eq]
  generalize (lg_sl ([.ref (ad 0)]) ++ List.replicate (1 - (lg_sl ([.ref (ad 0)])).length) Slot.unset).toArray = ls at hl ⊢
  have hl : lv_has ls 1 [(0, .ref (ad 0))] := hl
  unfold f_X5_keep at hf
  obtain ⟨H, eH⟩ : ∃ H, H = s.heap := ⟨_, rfl⟩
  obtain ⟨locs, eL⟩ : ∃ L : List Loc, L = [] := ⟨_, rfl⟩
  rw [← eH, ← eL] at hw ⊢
  clear eH eL
  refine lv_aload_n hx hb dX5_keep_0 rfl (lv_at hl 0 rfl) ?_
  refine q_get hx hb hts hiX5 hown hw 0 xa_0 rfl 1 (by decide) (hts (.fieldLink RX5 16 "LaceRanks" "snapshot" "LLaceRanks$Carnival;") (by decide +kernel)) rfl dX5_keep_1 ?_
  refine lv_aload_n hx hb dX5_keep_4 rfl (lv_at hl 0 rfl) ?_
  refine q_get hx hb hts hiX5 hown hw 0 xa_0 rfl 0 (by decide) (hts (.fieldLink RX5 10 "LaceRanks" "now" "LLaceRanks$Carnival;") (by decide +kernel)) rfl dX5_keep_5 ?_
  obtain ⟨O1, hO1, hf⟩ := nmE hf
  refine q_copySD (w := xws cI cR ad O K) (w' := xws cI cR ad O1 K) (od := 15) (os := 1) (rest := []) ⟨hx, hb, hml, hown, hts⟩ ⟨va_cnB 1 hts gX5_keep_X0_copyState_n188 rfl rfl rfl (nw_X5_188 hw.2.2.2.2) (hts (.initialized RX0) (by decide +kernel)) (by decide +kernel) ⟨Nat.le_of_ble_eq_true rfl, Nat.le_of_ble_eq_true rfl⟩, (hts (.instanceMethod yX0_copyState) (by decide +kernel)), (hts (.selects RX0 yX0_copyState yX0_copyState) (by decide +kernel))⟩ (by have h := xw_snap (cI := cI) (cR := cR) (ad := ad) (O := O) (K := K) (B := O 1); rw [upB_id] at h; exact h) (by rw [hO1]; exact xw_snap) hw hl.1 rfl (Nat.le_of_ble_eq_true rfl) dX5_keep_8 ⟨Nat.zero_le _, Nat.zero_le _⟩ (fun H locs hw => ?_)
  refine lv_aload_n hx hb dX5_keep_11 rfl (lv_at hl 0 rfl) ?_
  refine lv_iconst (v := 1) hx hb dX5_keep_12 (by decide) ?_
  obtain ⟨O2, hO2, hf⟩ := nmE hf
  refine q_put (ty := .boolean) hx hb hts hiX5 tyX5 tyX5_ok nmX5 hown hw 0 xa_0 rfl 4 (by decide) (hts (.fieldLink RX5 33 "LaceRanks" "hasSnapshot" "Z") (by decide +kernel)) rfl (by decide +kernel) nb_1 rfl (Nat.le_of_ble_eq_true rfl) dX5_keep_13 (xs_0_4.trans (congrArg (fun z => (xws cI cR ad z K)) hO2.symm)) (fun H locs hw => ?_)
  refine lv_aload_n hx hb dX5_keep_16 rfl (lv_at hl 0 rfl) ?_
  refine q_get hx hb hts hiX5 hown hw 0 xa_0 rfl 0 (by decide) (hts (.fieldLink RX5 10 "LaceRanks" "now" "LLaceRanks$Carnival;") (by decide +kernel)) rfl dX5_keep_17 ?_
  refine q_getN hx hb hts hiX0 hown hw 1 xa_1 rfl 3 (by decide) (nw_X5_191 hw.2.2.2.2) rfl dX5_keep_20 ?_
  cases hf
  exact q_iret hx hb hr hlocks hw dX5_keep_23

def f_X5_night (O : XO) (K : RK)   : Option (Int32 × XO × RK) := bnd (f_X2_save O K) (fun O1 => bnd2 (f_X0_endNight K) (fun r2 K3 => some (r2, O1, K3)))
set_option maxHeartbeats 4000000 in
set_option maxRecDepth 100000 in
theorem c_X5_night {l : Launch} {D : va_G} {cI cR : ClassId} {ad : Nat → Nat} {A : Nat → Prop} {O : XO} {K : RK} {O' : XO} {K' : RK}  {r : Int32}  (hf : f_X5_night O K = some (r, O', K')) : MC l yX5_night wsX5_night 5 105 D cI cR A [.ref (ad 0)] (xws cI cR ad O K) (some (.int r)) (xws cI cR ad O' K') := by
  refine Met.ofW (cc := cX5_night) (maxL := 1) (ret := (some .int)) (by decide) rfl ?_
  intro p e s m args below meth c s₁ B hml hv
  obtain ⟨rfl, hw⟩ := q_start hv
  have hx := B.exec
  have hb := B.bytes
  have hr := B.returns
  have hts := atoms_spec (ws := wsX5_night) B.pre
  have hown : s.vm.findClass RX5 = some m.cls := findClass_of_methodNamed B.named
  have hlocks := B.notSynchronized
  have hiX5 : ∀ w ∈ wsX50, w ∈ wsX5_night := by decide +kernel
  have hl := lv_entry ([.ref (ad 0)]) (n := 1) (Nat.le_of_ble_eq_true rfl)
  rw [lg_entry_eq]
  generalize (lg_sl ([.ref (ad 0)]) ++ List.replicate (1 - (lg_sl ([.ref (ad 0)])).length) Slot.unset).toArray = ls at hl ⊢
  have hl : lv_has ls 1 [(0, .ref (ad 0))] := hl
  unfold f_X5_night at hf
  obtain ⟨H, eH⟩ : ∃ H, H = s.heap := ⟨_, rfl⟩
  obtain ⟨locs, eL⟩ : ∃ L : List Loc, L = [] := ⟨_, rfl⟩
  rw [← eH, ← eL] at hw ⊢
  clear eH eL
  refine lv_aload_n hx hb dX5_night_0 rfl (lv_at hl 0 rfl) ?_
  refine q_get hx hb hts hiX5 hown hw 0 xa_0 rfl 2 (by decide) (hts (.fieldLink RX5 22 "LaceRanks" "history" "LLaceRanks$History;") (by decide +kernel)) rfl dX5_night_1 ?_
  refine lv_aload_n hx hb dX5_night_4 rfl (lv_at hl 0 rfl) ?_
  refine q_get hx hb hts hiX5 hown hw 0 xa_0 rfl 0 (by decide) (hts (.fieldLink RX5 10 "LaceRanks" "now" "LLaceRanks$Carnival;") (by decide +kernel)) rfl dX5_night_5 ?_
  obtain ⟨O1, hr1, hf⟩ := bndS hf
  refine q_callVN (rest := []) (st1 := []) [.ref (ad 1)] ⟨hx, hb, hml, hown, hts⟩ (c_X2_save hr1) ⟨va_cnB 1 hts gX5_night_X2_save_n58 rfl rfl rfl (nw_X5_58 hw.2.2.2.2) (hts (.initialized RX2) (by decide +kernel)) (by decide +kernel) ⟨Nat.le_of_ble_eq_true rfl, Nat.le_of_ble_eq_true rfl⟩, (hts (.instanceMethod yX2_save) (by decide +kernel)), (hts (.selects RX2 yX2_save yX2_save) (by decide +kernel))⟩ hw xa_29 rfl rfl hl.1 rfl (Nat.le_of_ble_eq_true rfl) dX5_night_8 ⟨Nat.zero_le _, Nat.zero_le _⟩ rfl (fun H locs hw => ?_)
  refine lv_aload_n hx hb dX5_night_11 rfl (lv_at hl 0 rfl) ?_
  refine q_get hx hb hts hiX5 hown hw 0 xa_0 rfl 0 (by decide) (hts (.fieldLink RX5 10 "LaceRanks" "now" "LLaceRanks$Carnival;") (by decide +kernel)) rfl dX5_night_12 ?_
  obtain ⟨r2, K3, hr3, hf⟩ := bnd2S hf
  refine q_callVN (rest := []) (st1 := [.int r2]) [] ⟨hx, hb, hml, hown, hts⟩ (c_X0_endNight hr3) ⟨va_cnB 0 hts gX5_night_X0_endNight_n142 rfl rfl rfl (nw_X5_142 hw.2.2.2.2) (hts (.initialized RX0) (by decide +kernel)) (by decide +kernel) ⟨Nat.le_of_ble_eq_true rfl, Nat.le_of_ble_eq_true rfl⟩, (hts (.instanceMethod yX0_endNight) (by decide +kernel)), (hts (.selects RX0 yX0_endNight yX0_endNight) (by decide +kernel))⟩ hw xa_1 rfl rfl hl.1 rfl (Nat.le_of_ble_eq_true rfl) dX5_night_15 ⟨Nat.zero_le _, Nat.zero_le _⟩ rfl (fun H locs hw => ?_)
  cases hf
  exact q_iret hx hb hr hlocks hw dX5_night_18
