def f_X4_write (O : XO)  (a1 : Int32) : Option XO := nm (upO O 1 (put_ 60 (O 8 1) (O 8 0 3) a1)) (fun O1 => nm (upOS O1 0 3 ((O1 8 0 3) + 1)) (fun O2 => some O2))
set_option maxHeartbeats 4000000 in
set_option maxRecDepth 100000 in
theorem c_X4_write {l : Launch} {D : va_G} {cI cR : ClassId} {ad : Nat → Nat} {A : Nat → Prop} {O : XO} {K : RK} {O' : XO} {a1 : Int32}   (hf : f_X4_write O a1 = some O') : MC l yX4_write wsX4_write 1 22 D cI cR A [.ref (ad 115), .int a1] (xws cI cR ad O K) none (xws cI cR ad O' K) := by
  refine Met.ofW (cc := cX4_write) (maxL := 2) (ret := none) (by decide) rfl ?_
  intro p e s m args below meth c s₁ B hml hv
  obtain ⟨rfl, hw⟩ := q_start hv
  have hx := B.exec
  have hb := B.bytes
  have hr := B.returns
  have hts := atoms_spec (ws := wsX4_write) B.pre
  have hown : s.vm.findClass RX4 = some m.cls := findClass_of_methodNamed B.named
  have hlocks := B.notSynchronized
  have hiX4 : ∀ w ∈ wsX40, w ∈ wsX4_write := by decide +kernel
  have hl := lv_entry ([.ref (ad 115), .int a1]) (n := 2) (Nat.le_of_ble_eq_true rfl)
  rw [lg_entry_eq]
  generalize (lg_sl ([.ref (ad 115), .int a1]) ++ List.replicate (2 - (lg_sl ([.ref (ad 115), .int a1])).length) Slot.unset).toArray = ls at hl ⊢
  have hl : lv_has ls 2 [(0, .ref (ad 115)), (1, .int a1)] := hl
  unfold f_X4_write at hf
  obtain ⟨H, eH⟩ : ∃ H, H = s.heap := ⟨_, rfl⟩
  obtain ⟨locs, eL⟩ : ∃ L : List Loc, L = [] := ⟨_, rfl⟩
  rw [← eH, ← eL] at hw ⊢
  clear eH eL
  refine lv_aload_n hx hb dX4_write_0 rfl (lv_at hl 0 rfl) ?_
  refine q_get hx hb hts hiX4 hown hw 115 xa_115 rfl 0 (by decide) (hts (.fieldLink RX4 9 "LaceRanks$Text" "signs" "[I") (by decide +kernel)) rfl dX4_write_1 ?_
  refine lv_aload_n hx hb dX4_write_4 rfl (lv_at hl 0 rfl) ?_
  refine q_get hx hb hts hiX4 hown hw 115 xa_115 rfl 1 (by decide) (hts (.fieldLink RX4 15 "LaceRanks$Text" "length" "I") (by decide +kernel)) rfl dX4_write_5 ?_
  refine lv_iload_n hx hb dX4_write_8 rfl (lv_at hl 1 rfl) ?_
  obtain ⟨O1, hO1, hf⟩ := nmE hf
  refine q_callSN (rest := []) (st1 := []) [.ref (ad 116), .int (O 8 0 3), .int a1] ⟨hx, hb, hml, hown, hts⟩ (c_X5_put (q0 := 116) xa_116 (xs_116.trans (congrArg (fun z => (xws cI cR ad z K)) hO1.symm))) ⟨va_cnB 3 hts gX4_write_X5_put_n19 rfl rfl rfl (nw_X4_19 hw.2.2.2.2) (hts (.initialized RX5) (by decide +kernel)) (by decide +kernel) ⟨Nat.le_of_ble_eq_true rfl, Nat.le_of_ble_eq_true rfl⟩, (hts (.static yX5_put) (by decide +kernel)), trivial⟩ hw rfl hl.1 rfl (Nat.le_of_ble_eq_true rfl) dX4_write_9 ⟨Nat.zero_le _, Nat.zero_le _⟩ rfl (fun H locs hw => ?_)
  refine lv_aload_n hx hb dX4_write_12 rfl (lv_at hl 0 rfl) ?_
  refine lv_dup hx hb dX4_write_13 rfl ?_
  refine q_get hx hb hts hiX4 hown hw 115 xa_115 rfl 1 (by decide) (hts (.fieldLink RX4 15 "LaceRanks$Text" "length" "I") (by decide +kernel)) rfl dX4_write_14 ?_
  refine lv_iconst (v := 1) hx hb dX4_write_17 (by decide) ?_
  refine lv_iadd hx hb dX4_write_18 ?_
  obtain ⟨O2, hO2, hf⟩ := nmE hf
  refine q_put (ty := .int) hx hb hts hiX4 tyX4 tyX4_ok nmX4 hown hw 115 xa_115 rfl 1 (by decide) (hts (.fieldLink RX4 15 "LaceRanks$Text" "length" "I") (by decide +kernel)) rfl (by decide +kernel) rfl rfl (Nat.le_of_ble_eq_true rfl) dX4_write_19 (xs_115_1.trans (congrArg (fun z => (xws cI cR ad z K)) hO2.symm)) (fun H locs hw => ?_)
  cases hf
  exact q_vret hx hb hr hlocks hw dX4_write_22

def f_X4_signAt (O : XO)  (a1 : Int32) : Option Int32 := (if (O 8 0 3) ≤ a1 then some 0 else nm (at_ 60 (O 8 1) a1) (fun r1 => some r1))
set_option maxHeartbeats 4000000 in
set_option maxRecDepth 100000 in
theorem c_X4_signAt {l : Launch} {D : va_G} {cI cR : ClassId} {ad : Nat → Nat} {A : Nat → Prop} {O : XO} {K : RK}  {a1 : Int32} {r : Int32}  (hf : f_X4_signAt O a1 = some r) : MC l yX4_signAt wsX4_signAt 1 21 D cI cR A [.ref (ad 115), .int a1] (xws cI cR ad O K) (some (.int r)) (xws cI cR ad O K) := by
  refine Met.ofW (cc := cX4_signAt) (maxL := 2) (ret := (some .int)) (by decide) rfl ?_
  intro p e s m args below meth c s₁ B hml hv
  obtain ⟨rfl, hw⟩ := q_start hv
  have hx := B.exec
  have hb := B.bytes
  have hr := B.returns
  have hts := atoms_spec (ws := wsX4_signAt) B.pre
  have hown : s.vm.findClass RX4 = some m.cls := findClass_of_methodNamed B.named
  have hlocks := B.notSynchronized
  have hiX4 : ∀ w ∈ wsX40, w ∈ wsX4_signAt := by decide +kernel
  have hl := lv_entry ([.ref (ad 115), .int a1]) (n := 2) (Nat.le_of_ble_eq_true rfl)
  rw [lg_entry_eq]
  generalize (lg_sl ([.ref (ad 115), .int a1]) ++ List.replicate (2 - (lg_sl ([.ref (ad 115), .int a1])).length) Slot.unset).toArray = ls at hl ⊢
  have hl : lv_has ls 2 [(0, .ref (ad 115)), (1, .int a1)] := hl
  unfold f_X4_signAt at hf
  obtain ⟨H, eH⟩ : ∃ H, H = s.heap := ⟨_, rfl⟩
  obtain ⟨locs, eL⟩ : ∃ L : List Loc, L = [] := ⟨_, rfl⟩
  rw [← eH, ← eL] at hw ⊢
  clear eH eL
  refine lv_iload_n hx hb dX4_signAt_0 rfl (lv_at hl 1 rfl) ?_
  refine lv_aload_n hx hb dX4_signAt_1 rfl (lv_at hl 0 rfl) ?_
  refine q_get hx hb hts hiX4 hown hw 115 xa_115 rfl 1 (by decide) (hts (.fieldLink RX4 15 "LaceRanks$Text" "length" "I") (by decide +kernel)) rfl dX4_signAt_2 ?_
  refine lv_icmp_ge (tgt := 19) hx hb dX4_signAt_5 (by decide) (fun hc => ?_) (fun hc => ?_)
  · have hf := iteT hf hc
    refine lv_iconst (v := 0) hx hb dX4_signAt_19 (by decide) ?_
    cases hf
    exact q_iret hx hb hr hlocks hw dX4_signAt_20
  · have hf := iteF hf hc
    refine lv_aload_n hx hb dX4_signAt_8 rfl (lv_at hl 0 rfl) ?_
    refine q_get hx hb hts hiX4 hown hw 115 xa_115 rfl 0 (by decide) (hts (.fieldLink RX4 9 "LaceRanks$Text" "signs" "[I") (by decide +kernel)) rfl dX4_signAt_9 ?_
    refine lv_iload_n hx hb dX4_signAt_12 rfl (lv_at hl 1 rfl) ?_
    obtain ⟨r1, hr1, hf⟩ := nmE hf
    refine q_callSN (rest := []) (st1 := [.int r1]) [.ref (ad 116), .int a1] ⟨hx, hb, hml, hown, hts⟩ (c_X5_at (q0 := 116) xa_116 hr1) ⟨va_cnB 2 hts gX4_signAt_X5_at_n23 rfl rfl rfl (nw_X4_23 hw.2.2.2.2) (hts (.initialized RX5) (by decide +kernel)) (by decide +kernel) ⟨Nat.le_of_ble_eq_true rfl, Nat.le_of_ble_eq_true rfl⟩, (hts (.static yX5_at) (by decide +kernel)), trivial⟩ hw rfl hl.1 rfl (Nat.le_of_ble_eq_true rfl) dX4_signAt_13 ⟨Nat.zero_le _, Nat.zero_le _⟩ rfl (fun H locs hw => ?_)
    refine lv_goto (tgt := 20) hx hb dX4_signAt_16 (by decide) ?_
    cases hf
    exact q_iret hx hb hr hlocks hw dX4_signAt_20

def f_X4_digitAt (O : XO)  (a1 : Int32) : Option Int32 := bnd (f_X4_signAt O a1) (fun r1 => bnd (f_X5_isWithin r1 48 57) (fun r2 => (if r2 = 0 then some (-1) else some (r1 - 48))))
set_option maxHeartbeats 4000000 in
set_option maxRecDepth 100000 in
theorem c_X4_digitAt {l : Launch} {D : va_G} {cI cR : ClassId} {ad : Nat → Nat} {A : Nat → Prop} {O : XO} {K : RK}  {a1 : Int32} {r : Int32}  (hf : f_X4_digitAt O a1 = some r) : MC l yX4_digitAt wsX4_digitAt 2 42 D cI cR A [.ref (ad 115), .int a1] (xws cI cR ad O K) (some (.int r)) (xws cI cR ad O K) := by
  refine Met.ofW (cc := cX4_digitAt) (maxL := 3) (ret := (some .int)) (by decide) rfl ?_
  intro p e s m args below meth c s₁ B hml hv
  obtain ⟨rfl, hw⟩ := q_start hv
  have hx := B.exec
  have hb := B.bytes
  have hr := B.returns
  have hts := atoms_spec (ws := wsX4_digitAt) B.pre
  have hown : s.vm.findClass RX4 = some m.cls := findClass_of_methodNamed B.named
  have hlocks := B.notSynchronized
  have hl := lv_entry ([.ref (ad 115), .int a1]) (n := 3) (Nat.le_of_ble_eq_true rfl)
  rw [lg_entry_eq]
  generalize (lg_sl ([.ref (ad 115), .int a1]) ++ List.replicate (3 - (lg_sl ([.ref (ad 115), .int a1])).length) Slot.unset).toArray = ls at hl ⊢
  have hl : lv_has ls 3 [(0, .ref (ad 115)), (1, .int a1)] := hl
  unfold f_X4_digitAt at hf
  obtain ⟨H, eH⟩ : ∃ H, H = s.heap := ⟨_, rfl⟩
  obtain ⟨locs, eL⟩ : ∃ L : List Loc, L = [] := ⟨_, rfl⟩
  rw [← eH, ← eL] at hw ⊢
  clear eH eL
  refine lv_aload_n hx hb dX4_digitAt_0 rfl (lv_at hl 0 rfl) ?_
  refine lv_iload_n hx hb dX4_digitAt_1 rfl (lv_at hl 1 rfl) ?_
  obtain ⟨r1, hr1, hf⟩ := bndS hf
  refine q_callV (rest := []) (st1 := [.int r1]) [.int a1] ⟨hx, hb, hml, hown, hts⟩ (c_X4_signAt hr1) (cwV 1 hts gX4_digitAt_X4_signAt rfl rfl rfl (by decide +kernel) ⟨Nat.le_of_ble_eq_true rfl, Nat.le_of_ble_eq_true rfl⟩) hw xa_115 rfl rfl hl.1 rfl (Nat.le_of_ble_eq_true rfl) dX4_digitAt_2 ⟨Nat.zero_le _, Nat.zero_le _⟩ rfl (fun H locs hw => ?_)
  refine lv_istore_n (lv' := [(2, .int r1), (0, .ref (ad 115)), (1, .int a1)]) hx hb dX4_digitAt_5 rfl hl (by decide) rfl (fun ls hl => ?_)
  refine lv_iload_n hx hb dX4_digitAt_6 rfl (lv_at hl 0 rfl) ?_
  refine lv_bipush (v := 48) hx hb dX4_digitAt_7 (by decide) ?_
  refine lv_bipush (v := 57) hx hb dX4_digitAt_9 (by decide) ?_
  obtain ⟨r2, hr2, hf⟩ := bndS hf
  refine q_callSN (rest := []) (st1 := [.int r2]) [.int r1, .int 48, .int 57] ⟨hx, hb, hml, hown, hts⟩ (c_X5_isWithin hr2) ⟨va_cnB 3 hts gX4_digitAt_X5_isWithin_n31 rfl rfl rfl (nw_X4_31 hw.2.2.2.2) (hts (.initialized RX5) (by decide +kernel)) (by decide +kernel) ⟨Nat.le_of_ble_eq_true rfl, Nat.le_of_ble_eq_true rfl⟩, (hts (.static yX5_isWithin) (by decide +kernel)), trivial⟩ hw rfl hl.1 rfl (Nat.le_of_ble_eq_true rfl) dX4_digitAt_11 ⟨Nat.zero_le _, Nat.zero_le _⟩ rfl (fun H locs hw => ?_)
  refine lv_if_eq (tgt := 24) hx hb dX4_digitAt_14 (by decide) (fun hc => ?_) (fun hc => ?_)
  · have hf := iteT hf hc
    refine lv_iconst (v := (-1)) hx hb dX4_digitAt_24 (by decide) ?_
    cases hf
    exact q_iret hx hb hr hlocks hw dX4_digitAt_25
  · have hf := iteF hf hc
    refine lv_iload_n hx hb dX4_digitAt_17 rfl (lv_at hl 0 rfl) ?_
    refine lv_bipush (v := 48) hx hb dX4_digitAt_18 (by decide) ?_
    refine lv_isub hx hb dX4_digitAt_20 ?_
    refine lv_goto (tgt := 25) hx hb dX4_digitAt_21 (by decide) ?_
    cases hf
    exact q_iret hx hb hr hlocks hw dX4_digitAt_25

def f_X4_isPartAt (O : XO)  (a1 : Int32) : Option Int32 := (if a1 = 0 then some 1 else bnd (f_X4_signAt O (a1 - 1)) (fun r1 => (if r1 = 59 then some 1 else some 0)))
set_option maxHeartbeats 4000000 in
set_option maxRecDepth 100000 in
theorem c_X4_isPartAt {l : Launch} {D : va_G} {cI cR : ClassId} {ad : Nat → Nat} {A : Nat → Prop} {O : XO} {K : RK}  {a1 : Int32} {r : Int32}  (hf : f_X4_isPartAt O a1 = some r) : MC l yX4_isPartAt wsX4_isPartAt 2 42 D cI cR A [.ref (ad 115), .int a1] (xws cI cR ad O K) (some (.int r)) (xws cI cR ad O K) := by
  refine Met.ofW (cc := cX4_isPartAt) (maxL := 2) (ret := (some .boolean)) (by decide) rfl ?_
  intro p e s m args below meth c s₁ B hml hv
  obtain ⟨rfl, hw⟩ := q_start hv
  have hx := B.exec
  have hb := B.bytes
  have hr := B.returns
  have hts := atoms_spec (ws := wsX4_isPartAt) B.pre
  have hown : s.vm.findClass RX4 = some m.cls := findClass_of_methodNamed B.named
  have hlocks := B.notSynchronized
  have hl := lv_entry ([.ref (ad 115), .int a1]) (n := 2) (Nat.le_of_ble_eq_true rfl)
  rw [lg_entry_eq]
  generalize (lg_sl ([.ref (ad 115), .int a1]) ++ List.replicate (2 - (lg_sl ([.ref (ad 115), .int a1])).length) Slot.unset).toArray = ls at hl ⊢
  have hl : lv_has ls 2 [(0, .ref (ad 115)), (1, .int a1)] := hl
  unfold f_X4_isPartAt at hf
  obtain ⟨H, eH⟩ : ∃ H, H = s.heap := ⟨_, rfl⟩
  obtain ⟨locs, eL⟩ : ∃ L : List Loc, L = [] := ⟨_, rfl⟩
  rw [← eH, ← eL] at hw ⊢
  clear eH eL
  refine lv_iload_n hx hb dX4_isPartAt_0 rfl (lv_at hl 1 rfl) ?_
  refine lv_if_eq (tgt := 16) hx hb dX4_isPartAt_1 (by decide) (fun hc => ?_) (fun hc => ?_)
  · have hf := iteT hf hc
    refine lv_iconst (v := 1) hx hb dX4_isPartAt_16 (by decide) ?_
    refine lv_goto (tgt := 21) hx hb dX4_isPartAt_17 (by decide) ?_
    cases hf
    exact q_zret hx hb hr nb_1 hlocks hw dX4_isPartAt_21
  · have hf := iteF hf hc
    refine lv_aload_n hx hb dX4_isPartAt_4 rfl (lv_at hl 0 rfl) ?_
    refine lv_iload_n hx hb dX4_isPartAt_5 rfl (lv_at hl 1 rfl) ?_
    refine lv_iconst (v := 1) hx hb dX4_isPartAt_6 (by decide) ?_
    refine lv_isub hx hb dX4_isPartAt_7 ?_
    obtain ⟨r1, hr1, hf⟩ := bndS hf
    refine q_callV (rest := []) (st1 := [.int r1]) [.int (a1 - 1)] ⟨hx, hb, hml, hown, hts⟩ (c_X4_signAt hr1) (cwV 1 hts gX4_isPartAt_X4_signAt rfl rfl rfl (by decide +kernel) ⟨Nat.le_of_ble_eq_true rfl, Nat.le_of_ble_eq_true rfl⟩) hw xa_115 rfl rfl hl.1 rfl (Nat.le_of_ble_eq_true rfl) dX4_isPartAt_8 ⟨Nat.zero_le _, Nat.zero_le _⟩ rfl (fun H locs hw => ?_)
    refine lv_bipush (v := 59) hx hb dX4_isPartAt_11 (by decide) ?_
    refine lv_icmp_ne (tgt := 20) hx hb dX4_isPartAt_13 (by decide) (fun hc => ?_) (fun hc => ?_)
    · have hf := iteF hf hc
      refine lv_iconst (v := 0) hx hb dX4_isPartAt_20 (by decide) ?_
      cases hf
      exact q_zret hx hb hr nb_0 hlocks hw dX4_isPartAt_21
    · have hf := iteT hf hc
      refine lv_iconst (v := 1) hx hb dX4_isPartAt_16 (by decide) ?_
      refine lv_goto (tgt := 21) hx hb dX4_isPartAt_17 (by decide) ?_
      cases hf
      exact q_zret hx hb hr nb_1 hlocks hw dX4_isPartAt_21

def f_X4_timesAt (O : XO)  (a1 : Int32) : Option Int32 := bnd (f_X4_signAt O a1) (fun r1 => (if r1 = 42 then bnd (f_X4_signAt O (a1 + 2)) (fun r2 => (if r2 = 48 then some 10 else bnd (f_X4_digitAt O (a1 + 1)) (fun r3 => some r3))) else some 1))
set_option maxHeartbeats 4000000 in
set_option maxRecDepth 100000 in
theorem c_X4_timesAt {l : Launch} {D : va_G} {cI cR : ClassId} {ad : Nat → Nat} {A : Nat → Prop} {O : XO} {K : RK}  {a1 : Int32} {r : Int32}  (hf : f_X4_timesAt O a1 = some r) : MC l yX4_timesAt wsX4_timesAt 3 64 D cI cR A [.ref (ad 115), .int a1] (xws cI cR ad O K) (some (.int r)) (xws cI cR ad O K) := by
  refine Met.ofW (cc := cX4_timesAt) (maxL := 2) (ret := (some .int)) (by decide) rfl ?_
  intro p e s m args below meth c s₁ B hml hv
  obtain ⟨rfl, hw⟩ := q_start hv
  have hx := B.exec
  have hb := B.bytes
  have hr := B.returns
  have hts := atoms_spec (ws := wsX4_timesAt) B.pre
  have hown : s.vm.findClass RX4 = some m.cls := findClass_of_methodNamed B.named
  have hlocks := B.notSynchronized
  have hl := lv_entry ([.ref (ad 115), .int a1]) (n := 2) (Nat.le_of_ble_eq_true rfl)
  rw [lg_entry_eq]
  generalize (lg_sl ([.ref (ad 115), .int a1]) ++ List.replicate (2 - (lg_sl ([.ref (ad 115), .int a1])).length) Slot.unset).toArray = ls at hl ⊢
  have hl : lv_has ls 2 [(0, .ref (ad 115)), (1, .int a1)] := hl
  unfold f_X4_timesAt at hf
  obtain ⟨H, eH⟩ : ∃ H, H = s.heap := ⟨_, rfl⟩
  obtain ⟨locs, eL⟩ : ∃ L : List Loc, L = [] := ⟨_, rfl⟩
  rw [← eH, ← eL] at hw ⊢
  clear eH eL
  refine lv_aload_n hx hb dX4_timesAt_0 rfl (lv_at hl 0 rfl) ?_
  refine lv_iload_n hx hb dX4_timesAt_1 rfl (lv_at hl 1 rfl) ?_
  obtain ⟨r1, hr1, hf⟩ := bndS hf
  refine q_callV (rest := []) (st1 := [.int r1]) [.int a1] ⟨hx, hb, hml, hown, hts⟩ (c_X4_signAt hr1) (cwV 1 hts gX4_timesAt_X4_signAt rfl rfl rfl (by decide +kernel) ⟨Nat.le_of_ble_eq_true rfl, Nat.le_of_ble_eq_true rfl⟩) hw xa_115 rfl rfl hl.1 rfl (Nat.le_of_ble_eq_true rfl) dX4_timesAt_2 ⟨Nat.zero_le _, Nat.zero_le _⟩ rfl (fun H locs hw => ?_)
  refine lv_bipush (v := 42) hx hb dX4_timesAt_5 (by decide) ?_
  refine lv_icmp_eq (tgt := 12) hx hb dX4_timesAt_7 (by decide) (fun hc => ?_) (fun hc => ?_)
  · have hf := iteT hf hc
    refine lv_aload_n hx hb dX4_timesAt_12 rfl (lv_at hl 0 rfl) ?_
    refine lv_iload_n hx hb dX4_timesAt_13 rfl (lv_at hl 1 rfl) ?_
    refine lv_iconst (v := 2) hx hb dX4_timesAt_14 (by decide) ?_
    refine lv_iadd hx hb dX4_timesAt_15 ?_
    obtain ⟨r2, hr2, hf⟩ := bndS hf
    refine q_callV (rest := []) (st1 := [.int r2]) [.int (a1 + 2)] ⟨hx, hb, hml, hown, hts⟩ (c_X4_signAt hr2) (cwV 1 hts gX4_timesAt_X4_signAt rfl rfl rfl (by decide +kernel) ⟨Nat.le_of_ble_eq_true rfl, Nat.le_of_ble_eq_true rfl⟩) hw xa_115 rfl rfl hl.1 rfl (Nat.le_of_ble_eq_true rfl) dX4_timesAt_16 ⟨Nat.zero_le _, Nat.zero_le _⟩ rfl (fun H locs hw => ?_)
    refine lv_bipush (v := 48) hx hb dX4_timesAt_19 (by decide) ?_
    refine lv_icmp_ne (tgt := 29) hx hb dX4_timesAt_21 (by decide) (fun hc => ?_) (fun hc => ?_)
    · have hf := iteF hf hc
      refine lv_aload_n hx hb dX4_timesAt_29 rfl (lv_at hl 0 rfl) ?_
      refine lv_iload_n hx hb dX4_timesAt_30 rfl (lv_at hl 1 rfl) ?_
      refine lv_iconst (v := 1) hx hb dX4_timesAt_31 (by decide) ?_
      refine lv_iadd hx hb dX4_timesAt_32 ?_
      obtain ⟨r3, hr3, hf⟩ := bndS hf
      refine q_callV (rest := []) (st1 := [.int r3]) [.int (a1 + 1)] ⟨hx, hb, hml, hown, hts⟩ (c_X4_digitAt hr3) (cwV 1 hts gX4_timesAt_X4_digitAt rfl rfl rfl (by decide +kernel) ⟨Nat.le_of_ble_eq_true rfl, Nat.le_of_ble_eq_true rfl⟩) hw xa_115 rfl rfl hl.1 rfl (Nat.le_of_ble_eq_true rfl) dX4_timesAt_33 ⟨Nat.zero_le _, Nat.zero_le _⟩ rfl (fun H locs hw => ?_)
      cases hf
      exact q_iret hx hb hr hlocks hw dX4_timesAt_36
    · have hf := iteT hf hc
      refine lv_bipush (v := 10) hx hb dX4_timesAt_24 (by decide) ?_
      refine lv_goto (tgt := 36) hx hb dX4_timesAt_26 (by decide) ?_
      cases hf
      exact q_iret hx hb hr hlocks hw dX4_timesAt_36
  · have hf := iteF hf hc
    refine lv_iconst (v := 1) hx hb dX4_timesAt_10 (by decide) ?_
    cases hf
    exact q_iret hx hb hr hlocks hw dX4_timesAt_11

def f_X4_expectedBehindPart   (a0 : Int32) : Option Int32 := (if a0 = 59 then some 1 else some 0)
set_option maxHeartbeats 4000000 in
set_option maxRecDepth 100000 in
theorem c_X4_expectedBehindPart {l : Launch} {D : va_G} {cI cR : ClassId} {A : Nat → Prop} {w : va_W}  {a0 : Int32} {r : Int32}  (hf : f_X4_expectedBehindPart a0 = some r) : MC l yX4_expectedBehindPart wsX4_expectedBehindPart 0 0 D cI cR A [.int a0] w (some (.int r)) w := by
  refine Met.ofW (cc := cX4_expectedBehindPart) (maxL := 1) (ret := (some .int)) (by decide) rfl ?_
  intro p e s m args below meth c s₁ B hml hv
  obtain ⟨rfl, hw⟩ := q_start hv
  have hx := B.exec
  have hb := B.bytes
  have hr := B.returns
  have hts := atoms_spec (ws := wsX4_expectedBehindPart) B.pre
  have hown : s.vm.findClass RX4 = some m.cls := findClass_of_methodNamed B.named
  have hlocks := B.notSynchronized
  have hl := lv_entry ([.int a0]) (n := 1) (Nat.le_of_ble_eq_true rfl)
  rw [lg_entry_eq]
  generalize (lg_sl ([.int a0]) ++ List.replicate (1 - (lg_sl ([.int a0])).length) Slot.unset).toArray = ls at hl ⊢
  have hl : lv_has ls 1 [(0, .int a0)] := hl
  unfold f_X4_expectedBehindPart at hf
  obtain ⟨H, eH⟩ : ∃ H, H = s.heap := ⟨_, rfl⟩
  obtain ⟨locs, eL⟩ : ∃ L : List Loc, L = [] := ⟨_, rfl⟩
  rw [← eH, ← eL] at hw ⊢
  clear eH eL
  refine lv_iload_n hx hb dX4_expectedBehindPart_0 rfl (lv_at hl 0 rfl) ?_
  refine lv_bipush (v := 59) hx hb dX4_expectedBehindPart_1 (by decide) ?_
  refine lv_icmp_ne (tgt := 10) hx hb dX4_expectedBehindPart_3 (by decide) (fun hc => ?_) (fun hc => ?_)
  · have hf := iteF hf hc
    refine lv_iconst (v := 0) hx hb dX4_expectedBehindPart_10 (by decide) ?_
    cases hf
    exact q_iret hx hb hr hlocks hw dX4_expectedBehindPart_11
  · have hf := iteT hf hc
    refine lv_iconst (v := 1) hx hb dX4_expectedBehindPart_6 (by decide) ?_
    refine lv_goto (tgt := 11) hx hb dX4_expectedBehindPart_7 (by decide) ?_
    cases hf
    exact q_iret hx hb hr hlocks hw dX4_expectedBehindPart_11

def f_X4_expectedBehindTimes   (a0 : Int32) : Option Int32 := (if a0 = 49 then some 8 else bnd (f_X5_isWithin a0 50 57) (fun r1 => (if r1 = 0 then some 0 else some 12)))
set_option maxHeartbeats 4000000 in
set_option maxRecDepth 100000 in
theorem c_X4_expectedBehindTimes {l : Launch} {D : va_G} {cI cR : ClassId} {A : Nat → Prop} {w : va_W}  {a0 : Int32} {r : Int32}  (hf : f_X4_expectedBehindTimes a0 = some r) : MC l yX4_expectedBehindTimes wsX4_expectedBehindTimes 1 22 D cI cR A [.int a0] w (some (.int r)) w := by
  refine Met.ofW (cc := cX4_expectedBehindTimes) (maxL := 1) (ret := (some .int)) (by decide) rfl ?_
  intro p e s m args below meth c s₁ B hml hv
  obtain ⟨rfl, hw⟩ := q_start hv
  have hx := B.exec
  have hb := B.bytes
  have hr := B.returns
  have hts := atoms_spec (ws := wsX4_expectedBehindTimes) B.pre
  have hown : s.vm.findClass RX4 = some m.cls := findClass_of_methodNamed B.named
  have hlocks := B.notSynchronized
  have hl := lv_entry ([.int a0]) (n := 1) (Nat.le_of_ble_eq_true rfl)
  rw [lg_entry_eq]
  generalize (lg_sl ([.int a0]) ++ List.replicate (1 - (lg_sl ([.int a0])).length) Slot.unset).toArray = ls at hl ⊢
  have hl : lv_has ls 1 [(0, .int a0)] := hl
  unfold f_X4_expectedBehindTimes at hf
  obtain ⟨H, eH⟩ : ∃ H, H = s.heap := ⟨_, rfl⟩
  obtain ⟨locs, eL⟩ : ∃ L : List Loc, L = [] := ⟨_, rfl⟩
  rw [← eH, ← eL] at hw ⊢
  clear eH eL
  refine lv_iload_n hx hb dX4_expectedBehindTimes_0 rfl (lv_at hl 0 rfl) ?_
  refine lv_bipush (v := 49) hx hb dX4_expectedBehindTimes_1 (by decide) ?_
  refine lv_icmp_ne (tgt := 9) hx hb dX4_expectedBehindTimes_3 (by decide) (fun hc => ?_) (fun hc => ?_)
  · have hf := iteF hf hc
    refine lv_iload_n hx hb dX4_expectedBehindTimes_9 rfl (lv_at hl 0 rfl) ?_
    refine lv_bipush (v := 50) hx hb dX4_expectedBehindTimes_10 (by decide) ?_
    refine lv_bipush (v := 57) hx hb dX4_expectedBehindTimes_12 (by decide) ?_
    obtain ⟨r1, hr1, hf⟩ := bndS hf
    refine q_callSN (rest := []) (st1 := [.int r1]) [.int a0, .int 50, .int 57] ⟨hx, hb, hml, hown, hts⟩ (c_X5_isWithin hr1) ⟨va_cnB 3 hts gX4_expectedBehindTimes_X5_isWithin_n31 rfl rfl rfl (nw_X4_31 hw.2.2.2.2) (hts (.initialized RX5) (by decide +kernel)) (by decide +kernel) ⟨Nat.le_of_ble_eq_true rfl, Nat.le_of_ble_eq_true rfl⟩, (hts (.static yX5_isWithin) (by decide +kernel)), trivial⟩ hw rfl hl.1 rfl (Nat.le_of_ble_eq_true rfl) dX4_expectedBehindTimes_14 ⟨Nat.zero_le _, Nat.zero_le _⟩ rfl (fun H locs hw => ?_)
    refine lv_if_eq (tgt := 25) hx hb dX4_expectedBehindTimes_17 (by decide) (fun hc => ?_) (fun hc => ?_)
    · have hf := iteT hf hc
      refine lv_iconst (v := 0) hx hb dX4_expectedBehindTimes_25 (by decide) ?_
      cases hf
      exact q_iret hx hb hr hlocks hw dX4_expectedBehindTimes_26
    · have hf := iteF hf hc
      refine lv_bipush (v := 12) hx hb dX4_expectedBehindTimes_20 (by decide) ?_
      refine lv_goto (tgt := 26) hx hb dX4_expectedBehindTimes_22 (by decide) ?_
      cases hf
      exact q_iret hx hb hr hlocks hw dX4_expectedBehindTimes_26
  · have hf := iteT hf hc
    refine lv_bipush (v := 8) hx hb dX4_expectedBehindTimes_6 (by decide) ?_
    cases hf
    exact q_iret hx hb hr hlocks hw dX4_expectedBehindTimes_8

def f_X4_expectedInPart   (a0 : Int32) : Option Int32 := (if a0 = 36 then some 11 else (if a0 = 94 then some 12 else (if a0 = 108 then some 9 else (if a0 = 109 then some 11 else (if a0 = 111 then some 5 else (if a0 = 113 then some 2 else (some 0)))))))
set_option maxHeartbeats 4000000 in
set_option maxRecDepth 100000 in
theorem c_X4_expectedInPart {l : Launch} {D : va_G} {cI cR : ClassId} {A : Nat → Prop} {w : va_W}  {a0 : Int32} {r : Int32}  (hf : f_X4_expectedInPart a0 = some r) : MC l yX4_expectedInPart wsX4_expectedInPart 0 0 D cI cR A [.int a0] w (some (.int r)) w := by
  refine Met.ofW (cc := cX4_expectedInPart) (maxL := 1) (ret := (some .int)) (by decide) rfl ?_
  intro p e s m args below meth c s₁ B hml hv
  obtain ⟨rfl, hw⟩ := q_start hv
  have hx := B.exec
  have hb := B.bytes
  have hr := B.returns
  have hts := atoms_spec (ws := wsX4_expectedInPart) B.pre
  have hown : s.vm.findClass RX4 = some m.cls := findClass_of_methodNamed B.named
  have hlocks := B.notSynchronized
  have hl := lv_entry ([.int a0]) (n := 1) (Nat.le_of_ble_eq_true rfl)
  rw [lg_entry_eq]
  generalize (lg_sl ([.int a0]) ++ List.replicate (1 - (lg_sl ([.int a0])).length) Slot.unset).toArray = ls at hl ⊢
  have hl : lv_has ls 1 [(0, .int a0)] := hl
  unfold f_X4_expectedInPart at hf
  obtain ⟨H, eH⟩ : ∃ H, H = s.heap := ⟨_, rfl⟩
  obtain ⟨locs, eL⟩ : ∃ L : List Loc, L = [] := ⟨_, rfl⟩
  rw [← eH, ← eL] at hw ⊢
  clear eH eL
  refine lv_iload_n hx hb dX4_expectedInPart_0 rfl (lv_at hl 0 rfl) ?_
  by_cases hc0 : a0 = 36
  · have hf := iteT hf hc0
    refine lv_lookup (tgt := 67) hx hb dX4_expectedInPart_1 (by decide) (by first | (rw [hc0]; done) | (rw [hc0]; rfl)) (by decide) ?_
    refine lv_bipush (v := 11) hx hb dX4_expectedInPart_67 (by decide) ?_
    cases hf
    exact q_iret hx hb hr hlocks hw dX4_expectedInPart_69
  replace hf := iteF hf hc0
  by_cases hc1 : a0 = 94
  · have hf := iteT hf hc1
    refine lv_lookup (tgt := 70) hx hb dX4_expectedInPart_1 (by decide) (by first | (rw [hc1]; done) | (rw [hc1]; rfl)) (by decide) ?_
    refine lv_bipush (v := 12) hx hb dX4_expectedInPart_70 (by decide) ?_
    cases hf
    exact q_iret hx hb hr hlocks hw dX4_expectedInPart_72
  replace hf := iteF hf hc1
  by_cases hc2 : a0 = 108
  · have hf := iteT hf hc2
    refine lv_lookup (tgt := 64) hx hb dX4_expectedInPart_1 (by decide) (by first | (rw [hc2]; done) | (rw [hc2]; rfl)) (by decide) ?_
    refine lv_bipush (v := 9) hx hb dX4_expectedInPart_64 (by decide) ?_
    cases hf
    exact q_iret hx hb hr hlocks hw dX4_expectedInPart_66
  replace hf := iteF hf hc2
  by_cases hc3 : a0 = 109
  · have hf := iteT hf hc3
    refine lv_lookup (tgt := 67) hx hb dX4_expectedInPart_1 (by decide) (by first | (rw [hc3]; done) | (rw [hc3]; rfl)) (by decide) ?_
    refine lv_bipush (v := 11) hx hb dX4_expectedInPart_67 (by decide) ?_
    cases hf
    exact q_iret hx hb hr hlocks hw dX4_expectedInPart_69
  replace hf := iteF hf hc3
  by_cases hc4 : a0 = 111
  · have hf := iteT hf hc4
    refine lv_lookup (tgt := 62) hx hb dX4_expectedInPart_1 (by decide) (by first | (rw [hc4]; done) | (rw [hc4]; rfl)) (by decide) ?_
    refine lv_iconst (v := 5) hx hb dX4_expectedInPart_62 (by decide) ?_
    cases hf
    exact q_iret hx hb hr hlocks hw dX4_expectedInPart_63
  replace hf := iteF hf hc4
  by_cases hc5 : a0 = 113
  · have hf := iteT hf hc5
    refine lv_lookup (tgt := 60) hx hb dX4_expectedInPart_1 (by decide) (by first | (rw [hc5]; done) | (rw [hc5]; rfl)) (by decide) ?_
    refine lv_iconst (v := 2) hx hb dX4_expectedInPart_60 (by decide) ?_
    cases hf
    exact q_iret hx hb hr hlocks hw dX4_expectedInPart_61
  replace hf := iteF hf hc5
  refine lv_lookup (tgt := 73) hx hb dX4_expectedInPart_1 (by decide) (by show Op.lookupswitch.offset [(36, 66), (94, 69), (108, 63), (109, 66), (111, 61), (113, 59)] (72) _ = 72; simp only [Op.lookupswitch.offset, if_neg (ne_toInt' hc0 (k := 36) (by decide)), if_neg (ne_toInt' hc1 (k := 94) (by decide)), if_neg (ne_toInt' hc2 (k := 108) (by decide)), if_neg (ne_toInt' hc3 (k := 109) (by decide)), if_neg (ne_toInt' hc4 (k := 111) (by decide)), if_neg (ne_toInt' hc5 (k := 113) (by decide))]) (by decide) ?_
  refine lv_iconst (v := 0) hx hb dX4_expectedInPart_73 (by decide) ?_
  cases hf
  exact q_iret hx hb hr hlocks hw dX4_expectedInPart_74

def f_X4_expectedBehind   (a0 : Int32) (a1 : Int32) : Option Int32 := bnd (f_X5_isWithin a1 48 57) (fun r1 => bnd (f_X5_isWithin a1 48 50) (fun r2 => (if a0 = 1 then bnd (f_X4_expectedInPart a1) (fun r3 => some r3) else (if a0 = 2 then (if r1 = 0 then some 0 else some 3) else (if a0 = 3 then (if a1 = 62 then some 4 else some 0) else (if a0 = 4 then (if r2 = 0 then some 0 else some 12) else (if a0 = 5 then (if r2 = 0 then some 0 else some 6) else (if a0 = 6 then (if a1 = 42 then some 7 else bnd (f_X4_expectedBehindPart a1) (fun r4 => some r4)) else (if a0 = 7 then bnd (f_X4_expectedBehindTimes a1) (fun r5 => some r5) else (if a0 = 8 then (if a1 = 48 then some 12 else bnd (f_X4_expectedBehindPart a1) (fun r6 => some r6)) else (if a0 = 9 then (if r1 = 0 then some 0 else some 10) else (if a0 = 10 then (if a1 = 62 then some 11 else some 0) else (if a0 = 11 then (if r1 = 0 then some 0 else some 12) else (if a0 = 12 then bnd (f_X4_expectedBehindPart a1) (fun r7 => some r7) else (some 0)))))))))))))))
set_option maxHeartbeats 4000000 in
set_option maxRecDepth 100000 in
theorem c_X4_expectedBehind {l : Launch} {D : va_G} {cI cR : ClassId} {A : Nat → Prop} {w : va_W}  {a0 : Int32} {a1 : Int32} {r : Int32}  (hf : f_X4_expectedBehind a0 a1 = some r) : MC l yX4_expectedBehind wsX4_expectedBehind 2 42 D cI cR A [.int a0, .int a1] w (some (.int r)) w := by
  refine Met.ofW (cc := cX4_expectedBehind) (maxL := 4) (ret := (some .int)) (by decide) rfl ?_
  intro p e s m args below meth c s₁ B hml hv
  obtain ⟨rfl, hw⟩ := q_start hv
  have hx := B.exec
  have hb := B.bytes
  have hr := B.returns
  have hts := atoms_spec (ws := wsX4_expectedBehind) B.pre
  have hown : s.vm.findClass RX4 = some m.cls := findClass_of_methodNamed B.named
  have hlocks := B.notSynchronized
  have hl := lv_entry ([.int a0, .int a1]) (n := 4) (Nat.le_of_ble_eq_true rfl)
  rw [lg_entry_eq]
  generalize (lg_sl ([.int a0, .int a1]) ++ List.replicate (4 - (lg_sl ([.int a0, .int a1])).length) Slot.unset).toArray = ls at hl ⊢
  have hl : lv_has ls 4 [(0, .int a0), (1, .int a1)] := hl
  unfold f_X4_expectedBehind at hf
  obtain ⟨H, eH⟩ : ∃ H, H = s.heap := ⟨_, rfl⟩
  obtain ⟨locs, eL⟩ : ∃ L : List Loc, L = [] := ⟨_, rfl⟩
  rw [← eH, ← eL] at hw ⊢
  clear eH eL
  refine lv_iload_n hx hb dX4_expectedBehind_0 rfl (lv_at hl 1 rfl) ?_
  refine lv_bipush (v := 48) hx hb dX4_expectedBehind_1 (by decide) ?_
  refine lv_bipush (v := 57) hx hb dX4_expectedBehind_3 (by decide) ?_
  obtain ⟨r1, hr1, hf⟩ := bndS hf
  refine q_callSN (rest := []) (st1 := [.int r1]) [.int a1, .int 48, .int 57] ⟨hx, hb, hml, hown, hts⟩ (c_X5_isWithin hr1) ⟨va_cnB 3 hts gX4_expectedBehind_X5_isWithin_n31 rfl rfl rfl (nw_X4_31 hw.2.2.2.2) (hts (.initialized RX5) (by decide +kernel)) (by decide +kernel) ⟨Nat.le_of_ble_eq_true rfl, Nat.le_of_ble_eq_true rfl⟩, (hts (.static yX5_isWithin) (by decide +kernel)), trivial⟩ hw rfl hl.1 rfl (Nat.le_of_ble_eq_true rfl) dX4_expectedBehind_5 ⟨Nat.zero_le _, Nat.zero_le _⟩ rfl (fun H locs hw => ?_)
  refine lv_istore_n (lv' := [(2, .int r1), (0, .int a0), (1, .int a1)]) hx hb dX4_expectedBehind_8 rfl hl (by decide) rfl (fun ls hl => ?_)
  refine lv_iload_n hx hb dX4_expectedBehind_9 rfl (lv_at hl 2 rfl) ?_
  refine lv_bipush (v := 48) hx hb dX4_expectedBehind_10 (by decide) ?_
  refine lv_bipush (v := 50) hx hb dX4_expectedBehind_12 (by decide) ?_
  obtain ⟨r2, hr2, hf⟩ := bndS hf
  refine q_callSN (rest := []) (st1 := [.int r2]) [.int a1, .int 48, .int 50] ⟨hx, hb, hml, hown, hts⟩ (c_X5_isWithin hr2) ⟨va_cnB 3 hts gX4_expectedBehind_X5_isWithin_n31 rfl rfl rfl (nw_X4_31 hw.2.2.2.2) (hts (.initialized RX5) (by decide +kernel)) (by decide +kernel) ⟨Nat.le_of_ble_eq_true rfl, Nat.le_of_ble_eq_true rfl⟩, (hts (.static yX5_isWithin) (by decide +kernel)), trivial⟩ hw rfl hl.1 rfl (Nat.le_of_ble_eq_true rfl) dX4_expectedBehind_14 ⟨Nat.zero_le _, Nat.zero_le _⟩ rfl (fun H locs hw => ?_)
  refine lv_istore_n (lv' := [(3, .int r2), (2, .int r1), (0, .int a0), (1, .int a1)]) hx hb dX4_expectedBehind_17 rfl hl (by decide) rfl (fun ls hl => ?_)
  refine lv_iload_n hx hb dX4_expectedBehind_18 rfl (lv_at hl 2 rfl) ?_
  by_cases hc0 : a0 = 1
  · have hf := iteT hf hc0
    refine lv_tableIn (tgt := 80) hx hb dX4_expectedBehind_19 (by rw [hc0]; decide) (by rw [hc0]; decide) (by rw [hc0]; rfl) (by decide) ?_
    refine lv_iload_n hx hb dX4_expectedBehind_80 rfl (lv_at hl 3 rfl) ?_
    obtain ⟨r3, hr3, hf⟩ := bndS hf
    refine q_callS (rest := []) (st1 := [.int r3]) [.int a1] ⟨hx, hb, hml, hown, hts⟩ (c_X4_expectedInPart hr3) (va_cwS 1 hts gX4_expectedBehind_X4_expectedInPart rfl rfl rfl (by decide +kernel) ⟨Nat.le_of_ble_eq_true rfl, Nat.le_of_ble_eq_true rfl⟩) hw rfl hl.1 rfl (Nat.le_of_ble_eq_true rfl) dX4_expectedBehind_81 ⟨Nat.zero_le _, Nat.zero_le _⟩ rfl (fun H locs hw => ?_)
    cases hf
    exact q_iret hx hb hr hlocks hw dX4_expectedBehind_84
  replace hf := iteF hf hc0
  by_cases hc1 : a0 = 2
  · have hf := iteT hf hc1
    refine lv_tableIn (tgt := 85) hx hb dX4_expectedBehind_19 (by rw [hc1]; decide) (by rw [hc1]; decide) (by rw [hc1]; rfl) (by decide) ?_
    refine lv_iload_n hx hb dX4_expectedBehind_85 rfl (lv_at hl 1 rfl) ?_
    refine lv_if_eq (tgt := 93) hx hb dX4_expectedBehind_86 (by decide) (fun hc => ?_) (fun hc => ?_)
    · have hf := iteT hf hc
      refine lv_iconst (v := 0) hx hb dX4_expectedBehind_93 (by decide) ?_
      cases hf
      exact q_iret hx hb hr hlocks hw dX4_expectedBehind_94
    · have hf := iteF hf hc
      refine lv_iconst (v := 3) hx hb dX4_expectedBehind_89 (by decide) ?_
      refine lv_goto (tgt := 94) hx hb dX4_expectedBehind_90 (by decide) ?_
      cases hf
      exact q_iret hx hb hr hlocks hw dX4_expectedBehind_94
  replace hf := iteF hf hc1
  by_cases hc2 : a0 = 3
  · have hf := iteT hf hc2
    refine lv_tableIn (tgt := 95) hx hb dX4_expectedBehind_19 (by rw [hc2]; decide) (by rw [hc2]; decide) (by rw [hc2]; rfl) (by decide) ?_
    refine lv_iload_n hx hb dX4_expectedBehind_95 rfl (lv_at hl 3 rfl) ?_
    refine lv_bipush (v := 62) hx hb dX4_expectedBehind_96 (by decide) ?_
    refine lv_icmp_ne (tgt := 105) hx hb dX4_expectedBehind_98 (by decide) (fun hc => ?_) (fun hc => ?_)
    · have hf := iteF hf hc
      refine lv_iconst (v := 0) hx hb dX4_expectedBehind_105 (by decide) ?_
      cases hf
      exact q_iret hx hb hr hlocks hw dX4_expectedBehind_106
    · have hf := iteT hf hc
      refine lv_iconst (v := 4) hx hb dX4_expectedBehind_101 (by decide) ?_
      refine lv_goto (tgt := 106) hx hb dX4_expectedBehind_102 (by decide) ?_
      cases hf
      exact q_iret hx hb hr hlocks hw dX4_expectedBehind_106
  replace hf := iteF hf hc2
  by_cases hc3 : a0 = 4
  · have hf := iteT hf hc3
    refine lv_tableIn (tgt := 107) hx hb dX4_expectedBehind_19 (by rw [hc3]; decide) (by rw [hc3]; decide) (by rw [hc3]; rfl) (by decide) ?_
    refine lv_iload_n hx hb dX4_expectedBehind_107 rfl (lv_at hl 0 rfl) ?_
    refine lv_if_eq (tgt := 116) hx hb dX4_expectedBehind_108 (by decide) (fun hc => ?_) (fun hc => ?_)
    · have hf := iteT hf hc
      refine lv_iconst (v := 0) hx hb dX4_expectedBehind_116 (by decide) ?_
      cases hf
      exact q_iret hx hb hr hlocks hw dX4_expectedBehind_117
    · have hf := iteF hf hc
      refine lv_bipush (v := 12) hx hb dX4_expectedBehind_111 (by decide) ?_
      refine lv_goto (tgt := 117) hx hb dX4_expectedBehind_113 (by decide) ?_
      cases hf
      exact q_iret hx hb hr hlocks hw dX4_expectedBehind_117
  replace hf := iteF hf hc3
  by_cases hc4 : a0 = 5
  · have hf := iteT hf hc4
    refine lv_tableIn (tgt := 118) hx hb dX4_expectedBehind_19 (by rw [hc4]; decide) (by rw [hc4]; decide) (by rw [hc4]; rfl) (by decide) ?_
    refine lv_iload_n hx hb dX4_expectedBehind_118 rfl (lv_at hl 0 rfl) ?_
    refine lv_if_eq (tgt := 127) hx hb dX4_expectedBehind_119 (by decide) (fun hc => ?_) (fun hc => ?_)
    · have hf := iteT hf hc
      refine lv_iconst (v := 0) hx hb dX4_expectedBehind_127 (by decide) ?_
      cases hf
      exact q_iret hx hb hr hlocks hw dX4_expectedBehind_128
    · have hf := iteF hf hc
      refine lv_bipush (v := 6) hx hb dX4_expectedBehind_122 (by decide) ?_
      refine lv_goto (tgt := 128) hx hb dX4_expectedBehind_124 (by decide) ?_
      cases hf
      exact q_iret hx hb hr hlocks hw dX4_expectedBehind_128
  replace hf := iteF hf hc4
  by_cases hc5 : a0 = 6
  · have hf := iteT hf hc5
    refine lv_tableIn (tgt := 129) hx hb dX4_expectedBehind_19 (by rw [hc5]; decide) (by rw [hc5]; decide) (by rw [hc5]; rfl) (by decide) ?_
    refine lv_iload_n hx hb dX4_expectedBehind_129 rfl (lv_at hl 3 rfl) ?_
    refine lv_bipush (v := 42) hx hb dX4_expectedBehind_130 (by decide) ?_
    refine lv_icmp_ne (tgt := 140) hx hb dX4_expectedBehind_132 (by decide) (fun hc => ?_) (fun hc => ?_)
    · have hf := iteF hf hc
      refine lv_iload_n hx hb dX4_expectedBehind_140 rfl (lv_at hl 3 rfl) ?_
      obtain ⟨r4, hr4, hf⟩ := bndS hf
      refine q_callS (rest := []) (st1 := [.int r4]) [.int a1] ⟨hx, hb, hml, hown, hts⟩ (c_X4_expectedBehindPart hr4) (va_cwS 1 hts gX4_expectedBehind_X4_expectedBehindPart rfl rfl rfl (by decide +kernel) ⟨Nat.le_of_ble_eq_true rfl, Nat.le_of_ble_eq_true rfl⟩) hw rfl hl.1 rfl (Nat.le_of_ble_eq_true rfl) dX4_expectedBehind_141 ⟨Nat.zero_le _, Nat.zero_le _⟩ rfl (fun H locs hw => ?_)
      cases hf
      exact q_iret hx hb hr hlocks hw dX4_expectedBehind_144
    · have hf := iteT hf hc
      refine lv_bipush (v := 7) hx hb dX4_expectedBehind_135 (by decide) ?_
      refine lv_goto (tgt := 144) hx hb dX4_expectedBehind_137 (by decide) ?_
      cases hf
      exact q_iret hx hb hr hlocks hw dX4_expectedBehind_144
  replace hf := iteF hf hc5
  by_cases hc6 : a0 = 7
  · have hf := iteT hf hc6
    refine lv_tableIn (tgt := 145) hx hb dX4_expectedBehind_19 (by rw [hc6]; decide) (by rw [hc6]; decide) (by rw [hc6]; rfl) (by decide) ?_
    refine lv_iload_n hx hb dX4_expectedBehind_145 rfl (lv_at hl 3 rfl) ?_
    obtain ⟨r5, hr5, hf⟩ := bndS hf
    refine q_callS (rest := []) (st1 := [.int r5]) [.int a1] ⟨hx, hb, hml, hown, hts⟩ (c_X4_expectedBehindTimes hr5) (va_cwS 1 hts gX4_expectedBehind_X4_expectedBehindTimes rfl rfl rfl (by decide +kernel) ⟨Nat.le_of_ble_eq_true rfl, Nat.le_of_ble_eq_true rfl⟩) hw rfl hl.1 rfl (Nat.le_of_ble_eq_true rfl) dX4_expectedBehind_146 ⟨Nat.zero_le _, Nat.zero_le _⟩ rfl (fun H locs hw => ?_)
    cases hf
    exact q_iret hx hb hr hlocks hw dX4_expectedBehind_149
  replace hf := iteF hf hc6
  by_cases hc7 : a0 = 8
  · have hf := iteT hf hc7
    refine lv_tableIn (tgt := 150) hx hb dX4_expectedBehind_19 (by rw [hc7]; decide) (by rw [hc7]; decide) (by rw [hc7]; rfl) (by decide) ?_
    refine lv_iload_n hx hb dX4_expectedBehind_150 rfl (lv_at hl 3 rfl) ?_
    refine lv_bipush (v := 48) hx hb dX4_expectedBehind_151 (by decide) ?_
    refine lv_icmp_ne (tgt := 161) hx hb dX4_expectedBehind_153 (by decide) (fun hc => ?_) (fun hc => ?_)
    · have hf := iteF hf hc
      refine lv_iload_n hx hb dX4_expectedBehind_161 rfl (lv_at hl 3 rfl) ?_
      obtain ⟨r6, hr6, hf⟩ := bndS hf
      refine q_callS (rest := []) (st1 := [.int r6]) [.int a1] ⟨hx, hb, hml, hown, hts⟩ (c_X4_expectedBehindPart hr6) (va_cwS 1 hts gX4_expectedBehind_X4_expectedBehindPart rfl rfl rfl (by decide +kernel) ⟨Nat.le_of_ble_eq_true rfl, Nat.le_of_ble_eq_true rfl⟩) hw rfl hl.1 rfl (Nat.le_of_ble_eq_true rfl) dX4_expectedBehind_162 ⟨Nat.zero_le _, Nat.zero_le _⟩ rfl (fun H locs hw => ?_)
      cases hf
      exact q_iret hx hb hr hlocks hw dX4_expectedBehind_165
    · have hf := iteT hf hc
      refine lv_bipush (v := 12) hx hb dX4_expectedBehind_156 (by decide) ?_
      refine lv_goto (tgt := 165) hx hb dX4_expectedBehind_158 (by decide) ?_
      cases hf
      exact q_iret hx hb hr hlocks hw dX4_expectedBehind_165
  replace hf := iteF hf hc7
  by_cases hc8 : a0 = 9
  · have hf := iteT hf hc8
    refine lv_tableIn (tgt := 166) hx hb dX4_expectedBehind_19 (by rw [hc8]; decide) (by rw [hc8]; decide) (by rw [hc8]; rfl) (by decide) ?_
    refine lv_iload_n hx hb dX4_expectedBehind_166 rfl (lv_at hl 1 rfl) ?_
    refine lv_if_eq (tgt := 175) hx hb dX4_expectedBehind_167 (by decide) (fun hc => ?_) (fun hc => ?_)
    · have hf := iteT hf hc
      refine lv_iconst (v := 0) hx hb dX4_expectedBehind_175 (by decide) ?_
      cases hf
      exact q_iret hx hb hr hlocks hw dX4_expectedBehind_176
    · have hf := iteF hf hc
      refine lv_bipush (v := 10) hx hb dX4_expectedBehind_170 (by decide) ?_
      refine lv_goto (tgt := 176) hx hb dX4_expectedBehind_172 (by decide) ?_
      cases hf
      exact q_iret hx hb hr hlocks hw dX4_expectedBehind_176
  replace hf := iteF hf hc8
  by_cases hc9 : a0 = 10
  · have hf := iteT hf hc9
    refine lv_tableIn (tgt := 177) hx hb dX4_expectedBehind_19 (by rw [hc9]; decide) (by rw [hc9]; decide) (by rw [hc9]; rfl) (by decide) ?_
    refine lv_iload_n hx hb dX4_expectedBehind_177 rfl (lv_at hl 3 rfl) ?_
    refine lv_bipush (v := 62) hx hb dX4_expectedBehind_178 (by decide) ?_
    refine lv_icmp_ne (tgt := 188) hx hb dX4_expectedBehind_180 (by decide) (fun hc => ?_) (fun hc => ?_)
    · have hf := iteF hf hc
      refine lv_iconst (v := 0) hx hb dX4_expectedBehind_188 (by decide) ?_
      cases hf
      exact q_iret hx hb hr hlocks hw dX4_expectedBehind_189
    · have hf := iteT hf hc
      refine lv_bipush (v := 11) hx hb dX4_expectedBehind_183 (by decide) ?_
      refine lv_goto (tgt := 189) hx hb dX4_expectedBehind_185 (by decide) ?_
      cases hf
      exact q_iret hx hb hr hlocks hw dX4_expectedBehind_189
  replace hf := iteF hf hc9
  by_cases hc10 : a0 = 11
  · have hf := iteT hf hc10
    refine lv_tableIn (tgt := 190) hx hb dX4_expectedBehind_19 (by rw [hc10]; decide) (by rw [hc10]; decide) (by rw [hc10]; rfl) (by decide) ?_
    refine lv_iload_n hx hb dX4_expectedBehind_190 rfl (lv_at hl 1 rfl) ?_
    refine lv_if_eq (tgt := 199) hx hb dX4_expectedBehind_191 (by decide) (fun hc => ?_) (fun hc => ?_)
    · have hf := iteT hf hc
      refine lv_iconst (v := 0) hx hb dX4_expectedBehind_199 (by decide) ?_
      cases hf
      exact q_iret hx hb hr hlocks hw dX4_expectedBehind_200
    · have hf := iteF hf hc
      refine lv_bipush (v := 12) hx hb dX4_expectedBehind_194 (by decide) ?_
      refine lv_goto (tgt := 200) hx hb dX4_expectedBehind_196 (by decide) ?_
      cases hf
      exact q_iret hx hb hr hlocks hw dX4_expectedBehind_200
  replace hf := iteF hf hc10
  by_cases hc11 : a0 = 12
  · have hf := iteT hf hc11
    refine lv_tableIn (tgt := 201) hx hb dX4_expectedBehind_19 (by rw [hc11]; decide) (by rw [hc11]; decide) (by rw [hc11]; rfl) (by decide) ?_
    refine lv_iload_n hx hb dX4_expectedBehind_201 rfl (lv_at hl 3 rfl) ?_
    obtain ⟨r7, hr7, hf⟩ := bndS hf
    refine q_callS (rest := []) (st1 := [.int r7]) [.int a1] ⟨hx, hb, hml, hown, hts⟩ (c_X4_expectedBehindPart hr7) (va_cwS 1 hts gX4_expectedBehind_X4_expectedBehindPart rfl rfl rfl (by decide +kernel) ⟨Nat.le_of_ble_eq_true rfl, Nat.le_of_ble_eq_true rfl⟩) hw rfl hl.1 rfl (Nat.le_of_ble_eq_true rfl) dX4_expectedBehind_202 ⟨Nat.zero_le _, Nat.zero_le _⟩ rfl (fun H locs hw => ?_)
    cases hf
    exact q_iret hx hb hr hlocks hw dX4_expectedBehind_205
  replace hf := iteF hf hc11
  have nhc0 := ne_toInt hc0 (k := 1) (by decide)
  have nhc1 := ne_toInt hc1 (k := 2) (by decide)
  have nhc2 := ne_toInt hc2 (k := 3) (by decide)
  have nhc3 := ne_toInt hc3 (k := 4) (by decide)
  have nhc4 := ne_toInt hc4 (k := 5) (by decide)
  have nhc5 := ne_toInt hc5 (k := 6) (by decide)
  have nhc6 := ne_toInt hc6 (k := 7) (by decide)
  have nhc7 := ne_toInt hc7 (k := 8) (by decide)
  have nhc8 := ne_toInt hc8 (k := 9) (by decide)
  have nhc9 := ne_toInt hc9 (k := 10) (by decide)
  have nhc10 := ne_toInt hc10 (k := 11) (by decide)
  have nhc11 := ne_toInt hc11 (k := 12) (by decide)
  refine lv_tableOut (tgt := 206) hx hb dX4_expectedBehind_19 (by omega) (by decide) ?_
  refine lv_iconst (v := 0) hx hb dX4_expectedBehind_206 (by decide) ?_
  cases hf
  exact q_iret hx hb hr hlocks hw dX4_expectedBehind_207

def f_X4_firstWrong_l4  (O : XO)  : Nat → Int32 → Int32 → Option Int32
  | 0, _, _ => none
  | n4 + 1, x1, x2 => (if (O 8 0 3) ≤ x2 then some (O 8 0 3) else bnd (f_X4_signAt O x2) (fun r1 => bnd (f_X4_expectedBehind x1 r1) (fun r2 => (if r2 = 0 then some x2 else nm (x2 + 1) (fun v3 => (f_X4_firstWrong_l4 O n4) r2 v3)))))
def f_X4_firstWrong (O : XO)   : Option Int32 := f_X4_firstWrong_l4 O fuelN 1 0
set_option maxHeartbeats 4000000 in
set_option maxRecDepth 100000 in
theorem c_X4_firstWrong {l : Launch} {D : va_G} {cI cR : ClassId} {ad : Nat → Nat} {A : Nat → Prop} {O : XO} {K : RK}   {r : Int32}  (hf : f_X4_firstWrong O = some r) : MC l yX4_firstWrong wsX4_firstWrong 3 65 D cI cR A [.ref (ad 115)] (xws cI cR ad O K) (some (.int r)) (xws cI cR ad O K) := by
  refine Met.ofW (cc := cX4_firstWrong) (maxL := 3) (ret := (some .int)) (by decide) rfl ?_
  intro p e s m args below meth c s₁ B hml hv
  obtain ⟨rfl, hw⟩ := q_start hv
  have hx := B.exec
  have hb := B.bytes
  have hr := B.returns
  have hts := atoms_spec (ws := wsX4_firstWrong) B.pre
  have hown : s.vm.findClass RX4 = some m.cls := findClass_of_methodNamed B.named
  have hlocks := B.notSynchronized
  have hiX4 : ∀ w ∈ wsX40, w ∈ wsX4_firstWrong := by decide +kernel
  have hl := lv_entry ([.ref (ad 115)]) (n := 3) (Nat.le_of_ble_eq_true rfl)
  rw [lg_entry_eq]
  generalize (lg_sl ([.ref (ad 115)]) ++ List.replicate (3 - (lg_sl ([.ref (ad 115)])).length) Slot.unset).toArray = ls at hl ⊢
  have hl : lv_has ls 3 [(0, .ref (ad 115))] := hl
  unfold f_X4_firstWrong at hf
  obtain ⟨H, eH⟩ : ∃ H, H = s.heap := ⟨_, rfl⟩
  obtain ⟨locs, eL⟩ : ∃ L : List Loc, L = [] := ⟨_, rfl⟩
  rw [← eH, ← eL] at hw ⊢
  clear eH eL
  have L4 : ∀ (n4 : Nat) (x1 : Int32) (x2 : Int32) (H : Heap) (locs : List Loc) (ls : Array Slot), f_X4_firstWrong_l4 O n4 x1 x2 = some r → WH D cI cR A (xws cI cR ad O K) s H locs → lv_has ls 3 [(0, .ref (ad 115)), (1, .int x1), (2, .int x2)] → W p l e (headSpec wsX4_firstWrong ({ frames := 3, cells := 0, slots := 0, locals := 65 })).room s m ([.ref (ad 115)] : List Value).toArray below meth c H locs 0 0 (MQ below (QV (some (.int r)) D A (xws cI cR ad O K)) (([.ref (ad 115)] : List Value)).toArray s 0 0 A) (F0 m 4 ls []) := by
    intro n4
    induction n4 with
    | zero => intro x1 x2 H locs ls hf; cases hf
    | succ n4 ih =>
      have ih4 := ih
      intro x1 x2 H locs ls hf hw hl
      simp only [f_X4_firstWrong_l4] at hf
      refine lv_iload_n hx hb dX4_firstWrong_4 rfl (lv_at hl 2 rfl) ?_
      refine lv_aload_n hx hb dX4_firstWrong_5 rfl (lv_at hl 0 rfl) ?_
      refine q_get hx hb hts hiX4 hown hw 115 xa_115 rfl 1 (by decide) (hts (.fieldLink RX4 15 "LaceRanks$Text" "length" "I") (by decide +kernel)) rfl dX4_firstWrong_6 ?_
      refine lv_icmp_ge (tgt := 34) hx hb dX4_firstWrong_9 (by decide) (fun hc => ?_) (fun hc => ?_)
      · have hf := iteT hf hc
        refine lv_aload_n hx hb dX4_firstWrong_34 rfl (lv_at hl 0 rfl) ?_
        refine q_get hx hb hts hiX4 hown hw 115 xa_115 rfl 1 (by decide) (hts (.fieldLink RX4 15 "LaceRanks$Text" "length" "I") (by decide +kernel)) rfl dX4_firstWrong_35 ?_
        cases hf
        exact q_iret hx hb hr hlocks hw dX4_firstWrong_38
      · have hf := iteF hf hc
        refine lv_iload_n hx hb dX4_firstWrong_12 rfl (lv_at hl 1 rfl) ?_
        refine lv_aload_n hx hb dX4_firstWrong_13 rfl (lv_at hl 0 rfl) ?_
        refine lv_iload_n hx hb dX4_firstWrong_14 rfl (lv_at hl 2 rfl) ?_
        obtain ⟨r1, hr1, hf⟩ := bndS hf
        refine q_callV (rest := [.int x1]) (st1 := [.int r1, .int x1]) [.int x2] ⟨hx, hb, hml, hown, hts⟩ (c_X4_signAt hr1) (cwV 1 hts gX4_firstWrong_X4_signAt rfl rfl rfl (by decide +kernel) ⟨Nat.le_of_ble_eq_true rfl, Nat.le_of_ble_eq_true rfl⟩) hw xa_115 rfl rfl hl.1 rfl (Nat.le_of_ble_eq_true rfl) dX4_firstWrong_15 ⟨Nat.zero_le _, Nat.zero_le _⟩ rfl (fun H locs hw => ?_)
        obtain ⟨r2, hr2, hf⟩ := bndS hf
        refine q_callS (rest := []) (st1 := [.int r2]) [.int x1, .int r1] ⟨hx, hb, hml, hown, hts⟩ (c_X4_expectedBehind hr2) (va_cwS 2 hts gX4_firstWrong_X4_expectedBehind rfl rfl rfl (by decide +kernel) ⟨Nat.le_of_ble_eq_true rfl, Nat.le_of_ble_eq_true rfl⟩) hw rfl hl.1 rfl (Nat.le_of_ble_eq_true rfl) dX4_firstWrong_18 ⟨Nat.zero_le _, Nat.zero_le _⟩ rfl (fun H locs hw => ?_)
        refine lv_istore_n (lv' := [(1, .int r2), (0, .ref (ad 115)), (2, .int x2)]) hx hb dX4_firstWrong_21 rfl hl (by decide) rfl (fun ls hl => ?_)
        refine lv_iload_n hx hb dX4_firstWrong_22 rfl (lv_at hl 0 rfl) ?_
        refine lv_if_ne (tgt := 28) hx hb dX4_firstWrong_23 (by decide) (fun hc => ?_) (fun hc => ?_)
        · have hf := iteF hf hc
          obtain ⟨v3, hv3, hf⟩ := nmE hf
          refine lv_iinc (v := v3) (lv' := [(2, .int v3), (1, .int r2), (0, .ref (ad 115))]) hx hb dX4_firstWrong_28 hl (k := 2) rfl (by rw [hv3]; rfl) (by decide) rfl (fun ls hl => ?_)
          refine lv_goto (tgt := 4) hx hb dX4_firstWrong_31 (by decide) ?_
          exact ih4 r2 v3 H locs ls hf hw (lv_sub hl [2, 1, 0] rfl)
        · have hf := iteT hf hc
          refine lv_iload_n hx hb dX4_firstWrong_26 rfl (lv_at hl 2 rfl) ?_
          cases hf
          exact q_iret hx hb hr hlocks hw dX4_firstWrong_27
  refine lv_iconst (v := 1) hx hb dX4_firstWrong_0 (by decide) ?_
  refine lv_istore_n (lv' := [(1, .int 1), (0, .ref (ad 115))]) hx hb dX4_firstWrong_1 rfl hl (by decide) rfl (fun ls hl => ?_)
  refine lv_iconst (v := 0) hx hb dX4_firstWrong_2 (by decide) ?_
  refine lv_istore_n (lv' := [(2, .int 0), (1, .int 1), (0, .ref (ad 115))]) hx hb dX4_firstWrong_3 rfl hl (by decide) rfl (fun ls hl => ?_)
  exact L4 fuelN 1 0 H locs ls hf hw (lv_sub hl [2, 1, 0] rfl)

def f_X4_isComplete_l4  (O : XO)  : Nat → Int32 → Int32 → Option Int32
  | 0, _, _ => none
  | n4 + 1, x1, x2 => (if (O 8 0 3) ≤ x2 then (if x1 = 12 then some 1 else (if x1 = 6 then some 1 else (if x1 = 8 then some 1 else some 0))) else bnd (f_X4_signAt O x2) (fun r1 => bnd (f_X4_expectedBehind x1 r1) (fun r2 => nm (x2 + 1) (fun v3 => (f_X4_isComplete_l4 O n4) r2 v3))))
def f_X4_isComplete (O : XO)   : Option Int32 := f_X4_isComplete_l4 O fuelN 1 0
set_option maxHeartbeats 4000000 in
set_option maxRecDepth 100000 in
theorem c_X4_isComplete {l : Launch} {D : va_G} {cI cR : ClassId} {ad : Nat → Nat} {A : Nat → Prop} {O : XO} {K : RK}   {r : Int32}  (hf : f_X4_isComplete O = some r) : MC l yX4_isComplete wsX4_isComplete 3 65 D cI cR A [.ref (ad 115)] (xws cI cR ad O K) (some (.int r)) (xws cI cR ad O K) := by
  refine Met.ofW (cc := cX4_isComplete) (maxL := 3) (ret := (some .boolean)) (by decide) rfl ?_
  intro p e s m args below meth c s₁ B hml hv
  obtain ⟨rfl, hw⟩ := q_start hv
  have hx := B.exec
  have hb := B.bytes
  have hr := B.returns
  have hts := atoms_spec (ws := wsX4_isComplete) B.pre
  have hown : s.vm.findClass RX4 = some m.cls := findClass_of_methodNamed B.named
  have hlocks := B.notSynchronized
  have hiX4 : ∀ w ∈ wsX40, w ∈ wsX4_isComplete := by decide +kernel
  have hl := lv_entry ([.ref (ad 115)]) (n := 3) (Nat.le_of_ble_eq_true rfl)
  rw [lg_entry_eq]
  generalize (lg_sl ([.ref (ad 115)]) ++ List.replicate (3 - (lg_sl ([.ref (ad 115)])).length) Slot.unset).toArray = ls at hl ⊢
  have hl : lv_has ls 3 [(0, .ref (ad 115))] := hl
  unfold f_X4_isComplete at hf
  obtain ⟨H, eH⟩ : ∃ H, H = s.heap := ⟨_, rfl⟩
  obtain ⟨locs, eL⟩ : ∃ L : List Loc, L = [] := ⟨_, rfl⟩
  rw [← eH, ← eL] at hw ⊢
  clear eH eL
  have L4 : ∀ (n4 : Nat) (x1 : Int32) (x2 : Int32) (H : Heap) (locs : List Loc) (ls : Array Slot), f_X4_isComplete_l4 O n4 x1 x2 = some r → WH D cI cR A (xws cI cR ad O K) s H locs → lv_has ls 3 [(0, .ref (ad 115)), (1, .int x1), (2, .int x2)] → W p l e (headSpec wsX4_isComplete ({ frames := 3, cells := 0, slots := 0, locals := 65 })).room s m ([.ref (ad 115)] : List Value).toArray below meth c H locs 0 0 (MQ below (QV (some (.int r)) D A (xws cI cR ad O K)) (([.ref (ad 115)] : List Value)).toArray s 0 0 A) (F0 m 4 ls []) := by
    intro n4
    induction n4 with
    | zero => intro x1 x2 H locs ls hf; cases hf
    | succ n4 ih =>
      have ih4 := ih
      intro x1 x2 H locs ls hf hw hl
      simp only [f_X4_isComplete_l4] at hf
      refine lv_iload_n hx hb dX4_isComplete_4 rfl (lv_at hl 2 rfl) ?_
      refine lv_aload_n hx hb dX4_isComplete_5 rfl (lv_at hl 0 rfl) ?_
      refine q_get hx hb hts hiX4 hown hw 115 xa_115 rfl 1 (by decide) (hts (.fieldLink RX4 15 "LaceRanks$Text" "length" "I") (by decide +kernel)) rfl dX4_isComplete_6 ?_
      refine lv_icmp_ge (tgt := 28) hx hb dX4_isComplete_9 (by decide) (fun hc => ?_) (fun hc => ?_)
      · have hf := iteT hf hc
        refine lv_iload_n hx hb dX4_isComplete_28 rfl (lv_at hl 1 rfl) ?_
        refine lv_bipush (v := 12) hx hb dX4_isComplete_29 (by decide) ?_
        refine lv_icmp_eq (tgt := 46) hx hb dX4_isComplete_31 (by decide) (fun hc => ?_) (fun hc => ?_)
        · have hf := iteT hf hc
          refine lv_iconst (v := 1) hx hb dX4_isComplete_46 (by decide) ?_
          refine lv_goto (tgt := 51) hx hb dX4_isComplete_47 (by decide) ?_
          cases hf
          exact q_zret hx hb hr nb_1 hlocks hw dX4_isComplete_51
        · have hf := iteF hf hc
          refine lv_iload_n hx hb dX4_isComplete_34 rfl (lv_at hl 1 rfl) ?_
          refine lv_bipush (v := 6) hx hb dX4_isComplete_35 (by decide) ?_
          refine lv_icmp_eq (tgt := 46) hx hb dX4_isComplete_37 (by decide) (fun hc => ?_) (fun hc => ?_)
          · have hf := iteT hf hc
            refine lv_iconst (v := 1) hx hb dX4_isComplete_46 (by decide) ?_
            refine lv_goto (tgt := 51) hx hb dX4_isComplete_47 (by decide) ?_
            cases hf
            exact q_zret hx hb hr nb_1 hlocks hw dX4_isComplete_51
          · have hf := iteF hf hc
            refine lv_iload_n hx hb dX4_isComplete_40 rfl (lv_at hl 1 rfl) ?_
            refine lv_bipush (v := 8) hx hb dX4_isComplete_41 (by decide) ?_
            refine lv_icmp_ne (tgt := 50) hx hb dX4_isComplete_43 (by decide) (fun hc => ?_) (fun hc => ?_)
            · have hf := iteF hf hc
              refine lv_iconst (v := 0) hx hb dX4_isComplete_50 (by decide) ?_
              cases hf
              exact q_zret hx hb hr nb_0 hlocks hw dX4_isComplete_51
            · have hf := iteT hf hc
              refine lv_iconst (v := 1) hx hb dX4_isComplete_46 (by decide) ?_
              refine lv_goto (tgt := 51) hx hb dX4_isComplete_47 (by decide) ?_
              cases hf
              exact q_zret hx hb hr nb_1 hlocks hw dX4_isComplete_51
      · have hf := iteF hf hc
        refine lv_iload_n hx hb dX4_isComplete_12 rfl (lv_at hl 1 rfl) ?_
        refine lv_aload_n hx hb dX4_isComplete_13 rfl (lv_at hl 0 rfl) ?_
        refine lv_iload_n hx hb dX4_isComplete_14 rfl (lv_at hl 2 rfl) ?_
        obtain ⟨r1, hr1, hf⟩ := bndS hf
        refine q_callV (rest := [.int x1]) (st1 := [.int r1, .int x1]) [.int x2] ⟨hx, hb, hml, hown, hts⟩ (c_X4_signAt hr1) (cwV 1 hts gX4_isComplete_X4_signAt rfl rfl rfl (by decide +kernel) ⟨Nat.le_of_ble_eq_true rfl, Nat.le_of_ble_eq_true rfl⟩) hw xa_115 rfl rfl hl.1 rfl (Nat.le_of_ble_eq_true rfl) dX4_isComplete_15 ⟨Nat.zero_le _, Nat.zero_le _⟩ rfl (fun H locs hw => ?_)
        obtain ⟨r2, hr2, hf⟩ := bndS hf
        refine q_callS (rest := []) (st1 := [.int r2]) [.int x1, .int r1] ⟨hx, hb, hml, hown, hts⟩ (c_X4_expectedBehind hr2) (va_cwS 2 hts gX4_isComplete_X4_expectedBehind rfl rfl rfl (by decide +kernel) ⟨Nat.le_of_ble_eq_true rfl, Nat.le_of_ble_eq_true rfl⟩) hw rfl hl.1 rfl (Nat.le_of_ble_eq_true rfl) dX4_isComplete_18 ⟨Nat.zero_le _, Nat.zero_le _⟩ rfl (fun H locs hw => ?_)
        refine lv_istore_n (lv' := [(1, .int r2), (0, .ref (ad 115)), (2, .int x2)]) hx hb dX4_isComplete_21 rfl hl (by decide) rfl (fun ls hl => ?_)
        obtain ⟨v3, hv3, hf⟩ := nmE hf
        refine lv_iinc (v := v3) (lv' := [(2, .int v3), (1, .int r2), (0, .ref (ad 115))]) hx hb dX4_isComplete_22 hl (k := 2) rfl (by rw [hv3]; rfl) (by decide) rfl (fun ls hl => ?_)
        refine lv_goto (tgt := 4) hx hb dX4_isComplete_25 (by decide) ?_
        exact ih4 r2 v3 H locs ls hf hw (lv_sub hl [2, 1, 0] rfl)
  refine lv_iconst (v := 1) hx hb dX4_isComplete_0 (by decide) ?_
  refine lv_istore_n (lv' := [(1, .int 1), (0, .ref (ad 115))]) hx hb dX4_isComplete_1 rfl hl (by decide) rfl (fun ls hl => ?_)
  refine lv_iconst (v := 0) hx hb dX4_isComplete_2 (by decide) ?_
  refine lv_istore_n (lv' := [(2, .int 0), (1, .int 1), (0, .ref (ad 115))]) hx hb dX4_isComplete_3 rfl hl (by decide) rfl (fun ls hl => ?_)
  exact L4 fuelN 1 0 H locs ls hf hw (lv_sub hl [2, 1, 0] rfl)
