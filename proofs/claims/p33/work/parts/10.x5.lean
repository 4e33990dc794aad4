def f_X5_numberOf (O : XO) (K : RK)  (a1 : Int32) : Option Int32 := (if a1 = 21 then some (O 8 0 2) else bnd (f_X0_countNumber K a1) (fun r1 => some r1))
set_option maxHeartbeats 4000000 in
set_option maxRecDepth 100000 in
theorem c_X5_numberOf {l : Launch} {D : va_G} {cI cR : ClassId} {ad : Nat → Nat} {A : Nat → Prop} {O : XO} {K : RK}  {a1 : Int32} {r : Int32}  (hf : f_X5_numberOf O K a1 = some r) : MC l yX5_numberOf wsX5_numberOf 4 85 D cI cR A [.ref (ad 0), .int a1] (xws cI cR ad O K) (some (.int r)) (xws cI cR ad O K) := by
  refine Met.ofW (cc := cX5_numberOf) (maxL := 2) (ret := (some .int)) (by decide) rfl ?_
  intro p e s m args below meth c s₁ B hml hv
  obtain ⟨rfl, hw⟩ := q_start hv
  have hx := B.exec
  have hb := B.bytes
  have hr := B.returns
  have hts := atoms_spec (ws := wsX5_numberOf) B.pre
  have hown : s.vm.findClass RX5 = some m.cls := findClass_of_methodNamed B.named
  have hlocks := B.notSynchronized
  have hiX2 : ∀ w ∈ wsX20, w ∈ wsX5_numberOf := by decide +kernel
  have hiX5 : ∀ w ∈ wsX50, w ∈ wsX5_numberOf := by decide +kernel
  have hl := lv_entry ([.ref (ad 0), .int a1]) (n := 2) (Nat.le_of_ble_eq_true rfl)
  rw [lg_entry_eq]
  generalize (lg_sl ([.ref (ad 0), .int a1]) ++ List.replicate (2 - (lg_sl ([.ref (ad 0), .int a1])).length) Slot.unset).toArray = ls at hl ⊢
  have hl : lv_has ls 2 [(0, .ref (ad 0)), (1, .int a1)] := hl
  unfold f_X5_numberOf at hf
  obtain ⟨H, eH⟩ : ∃ H, H = s.heap := ⟨_, rfl⟩
  obtain ⟨locs, eL⟩ : ∃ L : List Loc, L = [] := ⟨_, rfl⟩
  rw [← eH, ← eL] at hw ⊢
  clear eH eL
  refine lv_iload_n hx hb dX5_numberOf_0 rfl (lv_at hl 1 rfl) ?_
  refine lv_bipush (v := 21) hx hb dX5_numberOf_1 (by decide) ?_
  refine lv_icmp_ne (tgt := 16) hx hb dX5_numberOf_3 (by decide) (fun hc => ?_) (fun hc => ?_)
  · have hf := iteF hf hc
    refine lv_aload_n hx hb dX5_numberOf_16 rfl (lv_at hl 0 rfl) ?_
    refine q_get hx hb hts hiX5 hown hw 0 xa_0 rfl 0 (by decide) (hts (.fieldLink RX5 10 "LaceRanks" "now" "LLaceRanks$Carnival;") (by decide +kernel)) rfl dX5_numberOf_17 ?_
    refine lv_iload_n hx hb dX5_numberOf_20 rfl (lv_at hl 1 rfl) ?_
    obtain ⟨r1, hr1, hf⟩ := bndS hf
    refine q_callVN (rest := []) (st1 := [.int r1]) [.int a1] ⟨hx, hb, hml, hown, hts⟩ (c_X0_countNumber hr1) ⟨va_cnB 1 hts gX5_numberOf_X0_countNumber_n269 rfl rfl rfl (nw_X5_269 hw.2.2.2.2) (hts (.initialized RX0) (by decide +kernel)) (by decide +kernel) ⟨Nat.le_of_ble_eq_true rfl, Nat.le_of_ble_eq_true rfl⟩, (hts (.instanceMethod yX0_countNumber) (by decide +kernel)), (hts (.selects RX0 yX0_countNumber yX0_countNumber) (by decide +kernel))⟩ hw xa_1 rfl rfl hl.1 rfl (Nat.le_of_ble_eq_true rfl) dX5_numberOf_21 ⟨Nat.zero_le _, Nat.zero_le _⟩ rfl (fun H locs hw => ?_)
    cases hf
    exact q_iret hx hb hr hlocks hw dX5_numberOf_24
  · have hf := iteT hf hc
    refine lv_aload_n hx hb dX5_numberOf_6 rfl (lv_at hl 0 rfl) ?_
    refine q_get hx hb hts hiX5 hown hw 0 xa_0 rfl 2 (by decide) (hts (.fieldLink RX5 22 "LaceRanks" "history" "LLaceRanks$History;") (by decide +kernel)) rfl dX5_numberOf_7 ?_
    refine q_getN hx hb hts hiX2 hown hw 29 xa_29 rfl 2 (by decide) (nw_X5_184 hw.2.2.2.2) rfl dX5_numberOf_10 ?_
    refine lv_goto (tgt := 24) hx hb dX5_numberOf_13 (by decide) ?_
    cases hf
    exact q_iret hx hb hr hlocks hw dX5_numberOf_24

def f_X5_decentShare (K : RK)   : Option UInt64 := bnd (f_X0_shareOfDecent K) (fun r1 => some r1)
set_option maxHeartbeats 4000000 in
set_option maxRecDepth 100000 in
theorem c_X5_decentShare {l : Launch} {D : va_G} {cI cR : ClassId} {ad : Nat → Nat} {A : Nat → Prop} {O : XO} {K : RK}   {r : UInt64}  (hf : f_X5_decentShare K = some r) : MC l yX5_decentShare wsX5_decentShare 5 110 D cI cR A [.ref (ad 0)] (xws cI cR ad O K) (some (.double r)) (xws cI cR ad O K) := by
  refine Met.ofW (cc := cX5_decentShare) (maxL := 1) (ret := (some .double)) (by decide) rfl ?_
  intro p e s m args below meth c s₁ B hml hv
  obtain ⟨rfl, hw⟩ := q_start hv
  have hx := B.exec
  have hb := B.bytes
  have hr := B.returns
  have hts := atoms_spec (ws := wsX5_decentShare) B.pre
  have hown : s.vm.findClass RX5 = some m.cls := findClass_of_methodNamed B.named
  have hlocks := B.notSynchronized
  have hiX5 : ∀ w ∈ wsX50, w ∈ wsX5_decentShare := by decide +kernel
  have hl := lv_entry ([.ref (ad 0)]) (n := 1) (Nat.le_of_ble_eq_true rfl)
  rw [lg_entry_eq]
  generalize (lg_sl ([.ref (ad 0)]) ++ List.replicate (1 - (lg_sl ([.ref (ad 0)])).length) Slot.unset).toArray = ls at hl ⊢
  have hl : lv_has ls 1 [(0, .ref (ad 0))] := hl
  unfold f_X5_decentShare at hf
  obtain ⟨H, eH⟩ : ∃ H, H = s.heap := ⟨_, rfl⟩
  obtain ⟨locs, eL⟩ : ∃ L : List Loc, L = [] := ⟨_, rfl⟩
  rw [← eH, ← eL] at hw ⊢
  clear eH eL
  refine lv_aload_n hx hb dX5_decentShare_0 rfl (lv_at hl 0 rfl) ?_
  refine q_get hx hb hts hiX5 hown hw 0 xa_0 rfl 0 (by decide) (hts (.fieldLink RX5 10 "LaceRanks" "now" "LLaceRanks$Carnival;") (by decide +kernel)) rfl dX5_decentShare_1 ?_
  obtain ⟨r1, hr1, hf⟩ := bndS hf
  refine q_callVN (rest := []) (st1 := [.double r1]) [] ⟨hx, hb, hml, hown, hts⟩ (c_X0_shareOfDecent hr1) ⟨va_cnB 0 hts gX5_decentShare_X0_shareOfDecent_n212 rfl rfl rfl (nw_X5_212 hw.2.2.2.2) (hts (.initialized RX0) (by decide +kernel)) (by decide +kernel) ⟨Nat.le_of_ble_eq_true rfl, Nat.le_of_ble_eq_true rfl⟩, (hts (.instanceMethod yX0_shareOfDecent) (by decide +kernel)), (hts (.selects RX0 yX0_shareOfDecent yX0_shareOfDecent) (by decide +kernel))⟩ hw xa_1 rfl rfl hl.1 rfl (Nat.le_of_ble_eq_true rfl) dX5_decentShare_4 ⟨Nat.zero_le _, Nat.zero_le _⟩ rfl (fun H locs hw => ?_)
  cases hf
  exact q_dret hx hb hr hlocks hw dX5_decentShare_7
