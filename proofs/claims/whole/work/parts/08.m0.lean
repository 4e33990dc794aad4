def f_X6_thrown (M : MS)   : Option Int32 := some (M.1 3 0)
set_option maxHeartbeats 4000000 in
set_option maxRecDepth 100000 in
theorem c_X6_thrown {l : Launch} {D : va_G} {cI cR : ClassId} {ad : Nat → Nat} {A : Nat → Prop} {M : MS}   {r : Int32}  (hf : f_X6_thrown M = some r) : MC l yX6_thrown wsX6_thrown 0 0 D cI cR A [.ref (ad 0)] (mws cI ad M) (some (.int r)) (mws cI ad M) := by
  refine Met.ofW (cc := cX6_thrown) (maxL := 1) (ret := (some .int)) (by decide) rfl ?_
  intro p e s m args below meth c s₁ B hml hv
  obtain ⟨rfl, hw⟩ := q_start hv
  have hx := B.exec
  have hb := B.bytes
  have hr := B.returns
  have hts := atoms_spec (ws := wsX6_thrown) B.pre
  have hown : s.vm.findClass RX6 = some m.cls := findClass_of_methodNamed B.named
  have hlocks := B.notSynchronized
  have hiX6 : ∀ w ∈ wsX60, w ∈ wsX6_thrown := by decide +kernel
  have hl := lv_entry ([.ref (ad 0)]) (n := 1) (Nat.le_of_ble_eq_true rfl)
  rw [lg_entry_eq]
  generalize (lg_sl ([.ref (ad 0)]) ++ List.replicate (1 - (lg_sl ([.ref (ad 0)])).length) Slot.unset).toArray = ls at hl ⊢
  have hl : lv_has ls 1 [(0, .ref (ad 0))] := hl
  unfold f_X6_thrown at hf
  obtain ⟨H, eH⟩ : ∃ H, H = s.heap := ⟨_, rfl⟩
  obtain ⟨locs, eL⟩ : ∃ L : List Loc, L = [] := ⟨_, rfl⟩
  rw [← eH, ← eL] at hw ⊢
  clear eH eL
  refine lv_aload_n hx hb dX6_thrown_0 rfl (lv_at hl 0 rfl) ?_
  refine q_get hx hb hts hiX6 hown hw 0 ma_0 rfl 0 (by decide) (hts (.fieldLink RX6 19 "LaceRanksModel" "thrown" "I") (by decide +kernel)) rfl dX6_thrown_1 ?_
  cases hf
  exact q_iret hx hb hr hlocks hw dX6_thrown_4

def f_X6_in   (a0 : Int32) (a1 : Int32) (a2 : Int32) : Option Int32 := (if a0 < a1 then some 0 else (if a2 < a0 then some 0 else some 1))
set_option maxHeartbeats 4000000 in
set_option maxRecDepth 100000 in
theorem c_X6_in {l : Launch} {D : va_G} {cI cR : ClassId} {A : Nat → Prop} {w : va_W}  {a0 : Int32} {a1 : Int32} {a2 : Int32} {r : Int32}  (hf : f_X6_in a0 a1 a2 = some r) : MC l yX6_in wsX6_in 0 0 D cI cR A [.int a0, .int a1, .int a2] w (some (.int r)) w := by
  refine Met.ofW (cc := cX6_in) (maxL := 3) (ret := (some .boolean)) (by decide) rfl ?_
  intro p e s m args below meth c s₁ B hml hv
  obtain ⟨rfl, hw⟩ := q_start hv
  have hx := B.exec
  have hb := B.bytes
  have hr := B.returns
  have hts := atoms_spec (ws := wsX6_in) B.pre
  have hown : s.vm.findClass RX6 = some m.cls := findClass_of_methodNamed B.named
  have hlocks := B.notSynchronized
  have hl := lv_entry ([.int a0, .int a1, .int a2]) (n := 3) (Nat.le_of_ble_eq_true rfl)
  rw [lg_entry_eq]
  generalize (lg_sl ([.int a0, .int a1, .int a2]) ++ List.replicate (3 - (lg_sl ([.int a0, .int a1, .int a2])).length) Slot.unset).toArray = ls at hl ⊢
  have hl : lv_has ls 3 [(0, .int a0), (1, .int a1), (2, .int a2)] := hl
  unfold f_X6_in at hf
  obtain ⟨H, eH⟩ : ∃ H, H = s.heap := ⟨_, rfl⟩
  obtain ⟨locs, eL⟩ : ∃ L : List Loc, L = [] := ⟨_, rfl⟩
  rw [← eH, ← eL] at hw ⊢
  clear eH eL
  refine lv_iload_n hx hb dX6_in_0 rfl (lv_at hl 0 rfl) ?_
  refine lv_iload_n hx hb dX6_in_1 rfl (lv_at hl 1 rfl) ?_
  refine lv_icmp_lt (tgt := 14) hx hb dX6_in_2 (by decide) (fun hc => ?_) (fun hc => ?_)
  · have hf := iteT hf hc
    refine lv_iconst (v := 0) hx hb dX6_in_14 (by decide) ?_
    cases hf
    exact q_zret hx hb hr nb_0 hlocks hw dX6_in_15
  · have hf := iteF hf hc
    refine lv_iload_n hx hb dX6_in_5 rfl (lv_at hl 0 rfl) ?_
    refine lv_iload_n hx hb dX6_in_6 rfl (lv_at hl 2 rfl) ?_
    refine lv_icmp_gt (tgt := 14) hx hb dX6_in_7 (by decide) (fun hc => ?_) (fun hc => ?_)
    · have hf := iteT hf hc
      refine lv_iconst (v := 0) hx hb dX6_in_14 (by decide) ?_
      cases hf
      exact q_zret hx hb hr nb_0 hlocks hw dX6_in_15
    · have hf := iteF hf hc
      refine lv_iconst (v := 1) hx hb dX6_in_10 (by decide) ?_
      refine lv_goto (tgt := 15) hx hb dX6_in_11 (by decide) ?_
      cases hf
      exact q_zret hx hb hr nb_1 hlocks hw dX6_in_15

theorem bz_X6_in {a b c r : Int32} (h : f_X6_in a b c = some r) : narrow .boolean (.int r) = .int r := by
  unfold f_X6_in at h
  repeat' split at h
  all_goals (cases h; first | exact nb_0 | exact nb_1)

def f_X6_holds (M : MS)  (a1 : Int32) : Option (Int32 × MS) := nm (upMS M 3 0 a1) (fun M1 => (if a1 = 0 then some (1, M1) else some (0, M1)))
set_option maxHeartbeats 4000000 in
set_option maxRecDepth 100000 in
theorem c_X6_holds {l : Launch} {D : va_G} {cI cR : ClassId} {ad : Nat → Nat} {A : Nat → Prop} {M : MS} {M' : MS} {a1 : Int32} {r : Int32}  (hf : f_X6_holds M a1 = some (r, M')) : MC l yX6_holds wsX6_holds 0 0 D cI cR A [.ref (ad 0), .int a1] (mws cI ad M) (some (.int r)) (mws cI ad M') := by
  refine Met.ofW (cc := cX6_holds) (maxL := 2) (ret := (some .boolean)) (by decide) rfl ?_
  intro p e s m args below meth c s₁ B hml hv
  obtain ⟨rfl, hw⟩ := q_start hv
  have hx := B.exec
  have hb := B.bytes
  have hr := B.returns
  have hts := atoms_spec (ws := wsX6_holds) B.pre
  have hown : s.vm.findClass RX6 = some m.cls := findClass_of_methodNamed B.named
  have hlocks := B.notSynchronized
  have hiX6 : ∀ w ∈ wsX60, w ∈ wsX6_holds := by decide +kernel
  have hl := lv_entry ([.ref (ad 0), .int a1]) (n := 2) (Nat.le_of_ble_eq_true rfl)
  rw [lg_entry_eq]
  generalize (lg_sl ([.ref (ad 0), .int a1]) ++ List.replicate (2 - (lg_sl ([.ref (ad 0), .int a1])).length) Slot.unset).toArray = ls at hl ⊢
  have hl : lv_has ls 2 [(0, .ref (ad 0)), (1, .int a1)] := hl
  unfold f_X6_holds at hf
  obtain ⟨H, eH⟩ : ∃ H, H = s.heap := ⟨_, rfl⟩
  obtain ⟨locs, eL⟩ : ∃ L : List Loc, L = [] := ⟨_, rfl⟩
  rw [← eH, ← eL] at hw ⊢
  clear eH eL
  refine lv_aload_n hx hb dX6_holds_0 rfl (lv_at hl 0 rfl) ?_
  refine lv_iload_n hx hb dX6_holds_1 rfl (lv_at hl 1 rfl) ?_
  obtain ⟨M1, hM1, hf⟩ := nmE hf
  refine q_put (ty := .int) hx hb hts hiX6 tyX6 tyX6_ok nmX6 hown hw 0 ma_0 rfl 0 (by decide) (hts (.fieldLink RX6 19 "LaceRanksModel" "thrown" "I") (by decide +kernel)) rfl (by decide +kernel) rfl rfl (Nat.le_of_ble_eq_true rfl) dX6_holds_2 (ms_0_0.trans (congrArg (fun z => (mws cI ad z)) hM1.symm)) (fun H locs hw => ?_)
  refine lv_iload_n hx hb dX6_holds_5 rfl (lv_at hl 1 rfl) ?_
  refine lv_if_ne (tgt := 13) hx hb dX6_holds_6 (by decide) (fun hc => ?_) (fun hc => ?_)
  · have hf := iteF hf hc
    refine lv_iconst (v := 0) hx hb dX6_holds_13 (by decide) ?_
    cases hf
    exact q_zret hx hb hr nb_0 hlocks hw dX6_holds_14
  · have hf := iteT hf hc
    refine lv_iconst (v := 1) hx hb dX6_holds_9 (by decide) ?_
    refine lv_goto (tgt := 14) hx hb dX6_holds_10 (by decide) ?_
    cases hf
    exact q_zret hx hb hr nb_1 hlocks hw dX6_holds_14

def f_X6_isGuest (M : MS)  (a1 : Int32) : Option Int32 := gd (inb 1 952) (nm (M.1 0 (1 : Int32).toNatClampNeg) (fun v1 => bnd (f_X6_in a1 0 (v1 - 1)) (fun r2 => some r2)))
set_option maxHeartbeats 4000000 in
set_option maxRecDepth 100000 in
theorem c_X6_isGuest {l : Launch} {D : va_G} {cI cR : ClassId} {ad : Nat → Nat} {A : Nat → Prop} {M : MS}  {a1 : Int32} {r : Int32}  (hf : f_X6_isGuest M a1 = some r) : MC l yX6_isGuest wsX6_isGuest 1 22 D cI cR A [.ref (ad 0), .int a1] (mws cI ad M) (some (.int r)) (mws cI ad M) := by
  refine Met.ofW (cc := cX6_isGuest) (maxL := 2) (ret := (some .boolean)) (by decide) rfl ?_
  intro p e s m args below meth c s₁ B hml hv
  obtain ⟨rfl, hw⟩ := q_start hv
  have hx := B.exec
  have hb := B.bytes
  have hr := B.returns
  have hts := atoms_spec (ws := wsX6_isGuest) B.pre
  have hown : s.vm.findClass RX6 = some m.cls := findClass_of_methodNamed B.named
  have hlocks := B.notSynchronized
  have hiX6 : ∀ w ∈ wsX60, w ∈ wsX6_isGuest := by decide +kernel
  have hl := lv_entry ([.ref (ad 0), .int a1]) (n := 2) (Nat.le_of_ble_eq_true rfl)
  rw [lg_entry_eq]
  generalize (lg_sl ([.ref (ad 0), .int a1]) ++ List.replicate (2 - (lg_sl ([.ref (ad 0), .int a1])).length) Slot.unset).toArray = ls at hl ⊢
  have hl : lv_has ls 2 [(0, .ref (ad 0)), (1, .int a1)] := hl
  unfold f_X6_isGuest at hf
  obtain ⟨H, eH⟩ : ∃ H, H = s.heap := ⟨_, rfl⟩
  obtain ⟨locs, eL⟩ : ∃ L : List Loc, L = [] := ⟨_, rfl⟩
  rw [← eH, ← eL] at hw ⊢
  clear eH eL
  refine lv_iload_n hx hb dX6_isGuest_0 rfl (lv_at hl 1 rfl) ?_
  refine lv_iconst (v := 0) hx hb dX6_isGuest_1 (by decide) ?_
  refine lv_aload_n hx hb dX6_isGuest_2 rfl (lv_at hl 0 rfl) ?_
  refine q_get hx hb hts hiX6 hown hw 0 ma_0 rfl 1 (by decide) (hts (.fieldLink RX6 7 "LaceRanksModel" "s" "[I") (by decide +kernel)) rfl dX6_isGuest_3 ?_
  refine lv_iconst (v := 1) hx hb dX6_isGuest_6 (by decide) ?_
  obtain ⟨hg, hf⟩ := gdE hf
  obtain ⟨v1, hv1, hf⟩ := nmE hf
  refine q_iald hx hb hw 1 ma_1 (inb_in hg) dX6_isGuest_7 ?_
  refine q_is hv1 ?_
  refine lv_iconst (v := 1) hx hb dX6_isGuest_8 (by decide) ?_
  refine lv_isub hx hb dX6_isGuest_9 ?_
  obtain ⟨r2, hr2, hf⟩ := bndS hf
  refine q_callS (rest := []) (st1 := [.int r2]) [.int a1, .int 0, .int (v1 - 1)] ⟨hx, hb, hml, hown, hts⟩ (c_X6_in hr2) (va_cwS 3 hts gX6_isGuest_X6_in rfl rfl rfl (by decide +kernel) ⟨Nat.le_of_ble_eq_true rfl, Nat.le_of_ble_eq_true rfl⟩) hw rfl hl.1 rfl (Nat.le_of_ble_eq_true rfl) dX6_isGuest_10 ⟨Nat.zero_le _, Nat.zero_le _⟩ rfl (fun H locs hw => ?_)
  cases hf
  exact q_zret hx hb hr (bz_X6_in hr2) hlocks hw dX6_isGuest_13

def f_X6_isGate   (a0 : Int32) : Option Int32 := bnd (f_X6_in a0 0 2) (fun r1 => some r1)
set_option maxHeartbeats 4000000 in
set_option maxRecDepth 100000 in
theorem c_X6_isGate {l : Launch} {D : va_G} {cI cR : ClassId} {A : Nat → Prop} {w : va_W}  {a0 : Int32} {r : Int32}  (hf : f_X6_isGate a0 = some r) : MC l yX6_isGate wsX6_isGate 1 22 D cI cR A [.int a0] w (some (.int r)) w := by
  refine Met.ofW (cc := cX6_isGate) (maxL := 1) (ret := (some .boolean)) (by decide) rfl ?_
  intro p e s m args below meth c s₁ B hml hv
  obtain ⟨rfl, hw⟩ := q_start hv
  have hx := B.exec
  have hb := B.bytes
  have hr := B.returns
  have hts := atoms_spec (ws := wsX6_isGate) B.pre
  have hown : s.vm.findClass RX6 = some m.cls := findClass_of_methodNamed B.named
  have hlocks := B.notSynchronized
  have hl := lv_entry ([.int a0]) (n := 1) (Nat.le_of_ble_eq_true rfl)
  rw [lg_entry_eq]
  generalize (lg_sl ([.int a0]) ++ List.replicate (1 - (lg_sl ([.int a0])).length) Slot.unset).toArray = ls at hl ⊢
  have hl : lv_has ls 1 [(0, .int a0)] := hl
  unfold f_X6_isGate at hf
  obtain ⟨H, eH⟩ : ∃ H, H = s.heap := ⟨_, rfl⟩
  obtain ⟨locs, eL⟩ : ∃ L : List Loc, L = [] := ⟨_, rfl⟩
  rw [← eH, ← eL] at hw ⊢
  clear eH eL
  refine lv_iload_n hx hb dX6_isGate_0 rfl (lv_at hl 0 rfl) ?_
  refine lv_iconst (v := 0) hx hb dX6_isGate_1 (by decide) ?_
  refine lv_iconst (v := 2) hx hb dX6_isGate_2 (by decide) ?_
  obtain ⟨r1, hr1, hf⟩ := bndS hf
  refine q_callS (rest := []) (st1 := [.int r1]) [.int a0, .int 0, .int 2] ⟨hx, hb, hml, hown, hts⟩ (c_X6_in hr1) (va_cwS 3 hts gX6_isGate_X6_in rfl rfl rfl (by decide +kernel) ⟨Nat.le_of_ble_eq_true rfl, Nat.le_of_ble_eq_true rfl⟩) hw rfl hl.1 rfl (Nat.le_of_ble_eq_true rfl) dX6_isGate_3 ⟨Nat.zero_le _, Nat.zero_le _⟩ rfl (fun H locs hw => ?_)
  cases hf
  exact q_zret hx hb hr (bz_X6_in hr1) hlocks hw dX6_isGate_6

def f_X6_lesser   (a0 : Int32) (a1 : Int32) : Option Int32 := (if a1 ≤ a0 then some a1 else some a0)
set_option maxHeartbeats 4000000 in
set_option maxRecDepth 100000 in
theorem c_X6_lesser {l : Launch} {D : va_G} {cI cR : ClassId} {A : Nat → Prop} {w : va_W}  {a0 : Int32} {a1 : Int32} {r : Int32}  (hf : f_X6_lesser a0 a1 = some r) : MC l yX6_lesser wsX6_lesser 0 0 D cI cR A [.int a0, .int a1] w (some (.int r)) w := by
  refine Met.ofW (cc := cX6_lesser) (maxL := 2) (ret := (some .int)) (by decide) rfl ?_
  intro p e s m args below meth c s₁ B hml hv
  obtain ⟨rfl, hw⟩ := q_start hv
  have hx := B.exec
  have hb := B.bytes
  have hr := B.returns
  have hts := atoms_spec (ws := wsX6_lesser) B.pre
  have hown : s.vm.findClass RX6 = some m.cls := findClass_of_methodNamed B.named
  have hlocks := B.notSynchronized
  have hl := lv_entry ([.int a0, .int a1]) (n := 2) (Nat.le_of_ble_eq_true rfl)
  rw [lg_entry_eq]
  generalize (lg_sl ([.int a0, .int a1]) ++ List.replicate (2 - (lg_sl ([.int a0, .int a1])).length) Slot.unset).toArray = ls at hl ⊢
  have hl : lv_has ls 2 [(0, .int a0), (1, .int a1)] := hl
  unfold f_X6_lesser at hf
  obtain ⟨H, eH⟩ : ∃ H, H = s.heap := ⟨_, rfl⟩
  obtain ⟨locs, eL⟩ : ∃ L : List Loc, L = [] := ⟨_, rfl⟩
  rw [← eH, ← eL] at hw ⊢
  clear eH eL
  refine lv_iload_n hx hb dX6_lesser_0 rfl (lv_at hl 0 rfl) ?_
  refine lv_iload_n hx hb dX6_lesser_1 rfl (lv_at hl 1 rfl) ?_
  refine lv_icmp_ge (tgt := 9) hx hb dX6_lesser_2 (by decide) (fun hc => ?_) (fun hc => ?_)
  · have hf := iteT hf hc
    refine lv_iload_n hx hb dX6_lesser_9 rfl (lv_at hl 1 rfl) ?_
    cases hf
    exact q_iret hx hb hr hlocks hw dX6_lesser_10
  · have hf := iteF hf hc
    refine lv_iload_n hx hb dX6_lesser_5 rfl (lv_at hl 0 rfl) ?_
    refine lv_goto (tgt := 10) hx hb dX6_lesser_6 (by decide) ?_
    cases hf
    exact q_iret hx hb hr hlocks hw dX6_lesser_10

def f_X6_of (M : MS)  (a1 : Int32) (a2 : Int32) : Option Int32 := gd (inb ((16 + (7 * a1)) + a2) 952) (nm (M.1 0 ((16 + (7 * a1)) + a2).toNatClampNeg) (fun v1 => some v1))
set_option maxHeartbeats 4000000 in
set_option maxRecDepth 100000 in
theorem c_X6_of {l : Launch} {D : va_G} {cI cR : ClassId} {ad : Nat → Nat} {A : Nat → Prop} {M : MS}  {a1 : Int32} {a2 : Int32} {r : Int32}  (hf : f_X6_of M a1 a2 = some r) : MC l yX6_of wsX6_of 0 0 D cI cR A [.ref (ad 0), .int a1, .int a2] (mws cI ad M) (some (.int r)) (mws cI ad M) := by
  refine Met.ofW (cc := cX6_of) (maxL := 3) (ret := (some .int)) (by decide) rfl ?_
  intro p e s m args below meth c s₁ B hml hv
  obtain ⟨rfl, hw⟩ := q_start hv
  have hx := B.exec
  have hb := B.bytes
  have hr := B.returns
  have hts := atoms_spec (ws := wsX6_of) B.pre
  have hown : s.vm.findClass RX6 = some m.cls := findClass_of_methodNamed B.named
  have hlocks := B.notSynchronized
  have hiX6 : ∀ w ∈ wsX60, w ∈ wsX6_of := by decide +kernel
  have hl := lv_entry ([.ref (ad 0), .int a1, .int a2]) (n := 3) (Nat.le_of_ble_eq_true rfl)
  rw [lg_entry_eq]
  generalize (lg_sl ([.ref (ad 0), .int a1, .int a2]) ++ List.replicate (3 - (lg_sl ([.ref (ad 0), .int a1, .int a2])).length) Slot.unset).toArray = ls at hl ⊢
  have hl : lv_has ls 3 [(0, .ref (ad 0)), (1, .int a1), (2, .int a2)] := hl
  unfold f_X6_of at hf
  obtain ⟨H, eH⟩ : ∃ H, H = s.heap := ⟨_, rfl⟩
  obtain ⟨locs, eL⟩ : ∃ L : List Loc, L = [] := ⟨_, rfl⟩
  rw [← eH, ← eL] at hw ⊢
  clear eH eL
  refine lv_aload_n hx hb dX6_of_0 rfl (lv_at hl 0 rfl) ?_
  refine q_get hx hb hts hiX6 hown hw 0 ma_0 rfl 1 (by decide) (hts (.fieldLink RX6 7 "LaceRanksModel" "s" "[I") (by decide +kernel)) rfl dX6_of_1 ?_
  refine lv_bipush (v := 16) hx hb dX6_of_4 (by decide) ?_
  refine lv_bipush (v := 7) hx hb dX6_of_6 (by decide) ?_
  refine lv_iload_n hx hb dX6_of_8 rfl (lv_at hl 1 rfl) ?_
  refine lv_imul hx hb dX6_of_9 ?_
  refine lv_iadd hx hb dX6_of_10 ?_
  refine lv_iload_n hx hb dX6_of_11 rfl (lv_at hl 2 rfl) ?_
  refine lv_iadd hx hb dX6_of_12 ?_
  obtain ⟨hg, hf⟩ := gdE hf
  obtain ⟨v1, hv1, hf⟩ := nmE hf
  refine q_iald hx hb hw 1 ma_1 (inb_in hg) dX6_of_13 ?_
  refine q_is hv1 ?_
  cases hf
  exact q_iret hx hb hr hlocks hw dX6_of_14

def f_X6_lay (M : MS)  (a1 : Int32) (a2 : Int32) (a3 : Int32) : Option MS := gd (inb ((16 + (7 * a1)) + a2) 952) (nm (upM M 0 (upd (M.1 0) ((16 + (7 * a1)) + a2).toNatClampNeg a3)) (fun M1 => some M1))
set_option maxHeartbeats 4000000 in
set_option maxRecDepth 100000 in
theorem c_X6_lay {l : Launch} {D : va_G} {cI cR : ClassId} {ad : Nat → Nat} {A : Nat → Prop} {M : MS} {M' : MS} {a1 : Int32} {a2 : Int32} {a3 : Int32}   (hf : f_X6_lay M a1 a2 a3 = some M') : MC l yX6_lay wsX6_lay 0 0 D cI cR A [.ref (ad 0), .int a1, .int a2, .int a3] (mws cI ad M) none (mws cI ad M') := by
  refine Met.ofW (cc := cX6_lay) (maxL := 4) (ret := none) (by decide) rfl ?_
  intro p e s m args below meth c s₁ B hml hv
  obtain ⟨rfl, hw⟩ := q_start hv
  have hx := B.exec
  have hb := B.bytes
  have hr := B.returns
  have hts := atoms_spec (ws := wsX6_lay) B.pre
  have hown : s.vm.findClass RX6 = some m.cls := findClass_of_methodNamed B.named
  have hlocks := B.notSynchronized
  have hiX6 : ∀ w ∈ wsX60, w ∈ wsX6_lay := by decide +kernel
  have hl := lv_entry ([.ref (ad 0), .int a1, .int a2, .int a3]) (n := 4) (Nat.le_of_ble_eq_true rfl)
  rw [lg_entry_eq]
  generalize (lg_sl ([.ref (ad 0), .int a1, .int a2, .int a3]) ++ List.replicate (4 - (lg_sl ([.ref (ad 0), .int a1, .int a2, .int a3])).length) Slot.unset).toArray = ls at hl ⊢
  have hl : lv_has ls 4 [(0, .ref (ad 0)), (1, .int a1), (2, .int a2), (3, .int a3)] := hl
  unfold f_X6_lay at hf
  obtain ⟨H, eH⟩ : ∃ H, H = s.heap := ⟨_, rfl⟩
  obtain ⟨locs, eL⟩ : ∃ L : List Loc, L = [] := ⟨_, rfl⟩
  rw [← eH, ← eL] at hw ⊢
  clear eH eL
  refine lv_aload_n hx hb dX6_lay_0 rfl (lv_at hl 0 rfl) ?_
  refine q_get hx hb hts hiX6 hown hw 0 ma_0 rfl 1 (by decide) (hts (.fieldLink RX6 7 "LaceRanksModel" "s" "[I") (by decide +kernel)) rfl dX6_lay_1 ?_
  refine lv_bipush (v := 16) hx hb dX6_lay_4 (by decide) ?_
  refine lv_bipush (v := 7) hx hb dX6_lay_6 (by decide) ?_
  refine lv_iload_n hx hb dX6_lay_8 rfl (lv_at hl 1 rfl) ?_
  refine lv_imul hx hb dX6_lay_9 ?_
  refine lv_iadd hx hb dX6_lay_10 ?_
  refine lv_iload_n hx hb dX6_lay_11 rfl (lv_at hl 2 rfl) ?_
  refine lv_iadd hx hb dX6_lay_12 ?_
  refine lv_iload_n hx hb dX6_lay_13 rfl (lv_at hl 3 rfl) ?_
  obtain ⟨hg, hf⟩ := gdE hf
  obtain ⟨M1, hM1, hf⟩ := nmE hf
  refine q_iast hx hb hw 1 ma_1 (inb_in hg) dX6_lay_14 (ms_1.trans (congrArg (fun z => (mws cI ad z)) hM1.symm)) (fun H locs hw => ?_)
  cases hf
  exact q_vret hx hb hr hlocks hw dX6_lay_15

def f_X6_isBorrowed (M : MS)  (a1 : Int32) : Option Int32 := bnd (f_X6_of M a1 4) (fun r1 => (if r1 = (-1) then some 0 else bnd (f_X6_of M a1 4) (fun r2 => (if r2 = a1 then some 0 else some 1))))
set_option maxHeartbeats 4000000 in
set_option maxRecDepth 100000 in
theorem c_X6_isBorrowed {l : Launch} {D : va_G} {cI cR : ClassId} {ad : Nat → Nat} {A : Nat → Prop} {M : MS}  {a1 : Int32} {r : Int32}  (hf : f_X6_isBorrowed M a1 = some r) : MC l yX6_isBorrowed wsX6_isBorrowed 1 22 D cI cR A [.ref (ad 0), .int a1] (mws cI ad M) (some (.int r)) (mws cI ad M) := by
  refine Met.ofW (cc := cX6_isBorrowed) (maxL := 2) (ret := (some .boolean)) (by decide) rfl ?_
  intro p e s m args below meth c s₁ B hml hv
  obtain ⟨rfl, hw⟩ := q_start hv
  have hx := B.exec
  have hb := B.bytes
  have hr := B.returns
  have hts := atoms_spec (ws := wsX6_isBorrowed) B.pre
  have hown : s.vm.findClass RX6 = some m.cls := findClass_of_methodNamed B.named
  have hlocks := B.notSynchronized
  have hl := lv_entry ([.ref (ad 0), .int a1]) (n := 2) (Nat.le_of_ble_eq_true rfl)
  rw [lg_entry_eq]
  generalize (lg_sl ([.ref (ad 0), .int a1]) ++ List.replicate (2 - (lg_sl ([.ref (ad 0), .int a1])).length) Slot.unset).toArray = ls at hl ⊢
  have hl : lv_has ls 2 [(0, .ref (ad 0)), (1, .int a1)] := hl
  unfold f_X6_isBorrowed at hf
  obtain ⟨H, eH⟩ : ∃ H, H = s.heap := ⟨_, rfl⟩
  obtain ⟨locs, eL⟩ : ∃ L : List Loc, L = [] := ⟨_, rfl⟩
  rw [← eH, ← eL] at hw ⊢
  clear eH eL
  refine lv_aload_n hx hb dX6_isBorrowed_0 rfl (lv_at hl 0 rfl) ?_
  refine lv_iload_n hx hb dX6_isBorrowed_1 rfl (lv_at hl 1 rfl) ?_
  refine lv_iconst (v := 4) hx hb dX6_isBorrowed_2 (by decide) ?_
  obtain ⟨r1, hr1, hf⟩ := bndS hf
  refine q_callV (rest := []) (st1 := [.int r1]) [.int a1, .int 4] ⟨hx, hb, hml, hown, hts⟩ (c_X6_of hr1) (cwV 2 hts gX6_isBorrowed_X6_of rfl rfl rfl (by decide +kernel) ⟨Nat.le_of_ble_eq_true rfl, Nat.le_of_ble_eq_true rfl⟩) hw ma_0 rfl rfl hl.1 rfl (Nat.le_of_ble_eq_true rfl) dX6_isBorrowed_3 ⟨Nat.zero_le _, Nat.zero_le _⟩ rfl (fun H locs hw => ?_)
  refine lv_iconst (v := (-1)) hx hb dX6_isBorrowed_6 (by decide) ?_
  refine lv_icmp_eq (tgt := 24) hx hb dX6_isBorrowed_7 (by decide) (fun hc => ?_) (fun hc => ?_)
  · have hf := iteT hf hc
    refine lv_iconst (v := 0) hx hb dX6_isBorrowed_24 (by decide) ?_
    cases hf
    exact q_zret hx hb hr nb_0 hlocks hw dX6_isBorrowed_25
  · have hf := iteF hf hc
    refine lv_aload_n hx hb dX6_isBorrowed_10 rfl (lv_at hl 0 rfl) ?_
    refine lv_iload_n hx hb dX6_isBorrowed_11 rfl (lv_at hl 1 rfl) ?_
    refine lv_iconst (v := 4) hx hb dX6_isBorrowed_12 (by decide) ?_
    obtain ⟨r2, hr2, hf⟩ := bndS hf
    refine q_callV (rest := []) (st1 := [.int r2]) [.int a1, .int 4] ⟨hx, hb, hml, hown, hts⟩ (c_X6_of hr2) (cwV 2 hts gX6_isBorrowed_X6_of rfl rfl rfl (by decide +kernel) ⟨Nat.le_of_ble_eq_true rfl, Nat.le_of_ble_eq_true rfl⟩) hw ma_0 rfl rfl hl.1 rfl (Nat.le_of_ble_eq_true rfl) dX6_isBorrowed_13 ⟨Nat.zero_le _, Nat.zero_le _⟩ rfl (fun H locs hw => ?_)
    refine lv_iload_n hx hb dX6_isBorrowed_16 rfl (lv_at hl 1 rfl) ?_
    refine lv_icmp_eq (tgt := 24) hx hb dX6_isBorrowed_17 (by decide) (fun hc => ?_) (fun hc => ?_)
    · have hf := iteT hf hc
      refine lv_iconst (v := 0) hx hb dX6_isBorrowed_24 (by decide) ?_
      cases hf
      exact q_zret hx hb hr nb_0 hlocks hw dX6_isBorrowed_25
    · have hf := iteF hf hc
      refine lv_iconst (v := 1) hx hb dX6_isBorrowed_20 (by decide) ?_
      refine lv_goto (tgt := 25) hx hb dX6_isBorrowed_21 (by decide) ?_
      cases hf
      exact q_zret hx hb hr nb_1 hlocks hw dX6_isBorrowed_25

def f_X6_lentTo_b29 (k2 : Int32 → Int32 → Option Int32) (M : MS)  (x1 : Int32) (x2 : Int32) : Option Int32 := nm (x2 + 1) (fun v1 => k2 x1 v1)
def f_X6_lentTo_l2  (M : MS)  : Nat → Int32 → Int32 → Option Int32
  | 0, _, _ => none
  | n2 + 1, x1, x2 => gd (inb 1 952) (nm (M.1 0 (1 : Int32).toNatClampNeg) (fun v1 => (if v1 ≤ x2 then some (-1) else (if x2 = x1 then f_X6_lentTo_b29 (f_X6_lentTo_l2 M n2) M x1 x2 else bnd (f_X6_of M x2 4) (fun r2 => (if r2 = x1 then some x2 else f_X6_lentTo_b29 (f_X6_lentTo_l2 M n2) M x1 x2))))))
def f_X6_lentTo (M : MS)  (a1 : Int32) : Option Int32 := f_X6_lentTo_l2 M fuelN a1 0
set_option maxHeartbeats 4000000 in
set_option maxRecDepth 100000 in
theorem c_X6_lentTo {l : Launch} {D : va_G} {cI cR : ClassId} {ad : Nat → Nat} {A : Nat → Prop} {M : MS}  {a1 : Int32} {r : Int32}  (hf : f_X6_lentTo M a1 = some r) : MC l yX6_lentTo wsX6_lentTo 1 22 D cI cR A [.ref (ad 0), .int a1] (mws cI ad M) (some (.int r)) (mws cI ad M) := by
  refine Met.ofW (cc := cX6_lentTo) (maxL := 3) (ret := (some .int)) (by decide) rfl ?_
  intro p e s m args below meth c s₁ B hml hv
  obtain ⟨rfl, hw⟩ := q_start hv
  have hx := B.exec
  have hb := B.bytes
  have hr := B.returns
  have hts := atoms_spec (ws := wsX6_lentTo) B.pre
  have hown : s.vm.findClass RX6 = some m.cls := findClass_of_methodNamed B.named
  have hlocks := B.notSynchronized
  have hiX6 : ∀ w ∈ wsX60, w ∈ wsX6_lentTo := by decide +kernel
  have hl := lv_entry ([.ref (ad 0), .int a1]) (n := 3) (Nat.le_of_ble_eq_true rfl)
  rw [lg_entry_eq]
  generalize (lg_sl ([.ref (ad 0), .int a1]) ++ List.replicate (3 - (lg_sl ([.ref (ad 0), .int a1])).length) Slot.unset).toArray = ls at hl ⊢
  have hl : lv_has ls 3 [(0, .ref (ad 0)), (1, .int a1)] := hl
  unfold f_X6_lentTo at hf
  obtain ⟨H, eH⟩ : ∃ H, H = s.heap := ⟨_, rfl⟩
  obtain ⟨locs, eL⟩ : ∃ L : List Loc, L = [] := ⟨_, rfl⟩
  rw [← eH, ← eL] at hw ⊢
  clear eH eL
  have L2 : ∀ (n2 : Nat) (x1 : Int32) (x2 : Int32) (H : Heap) (locs : List Loc) (ls : Array Slot), f_X6_lentTo_l2 M n2 x1 x2 = some r → WH D cI cR A (mws cI ad M) s H locs → lv_has ls 3 [(0, .ref (ad 0)), (1, .int x1), (2, .int x2)] → W p l e (headSpec wsX6_lentTo ({ frames := 1, cells := 0, slots := 0, locals := 22 })).room s m ([.ref (ad 0), .int a1] : List Value).toArray below meth c H locs 0 0 (MQ below (QV (some (.int r)) D A (mws cI ad M)) (([.ref (ad 0), .int a1] : List Value)).toArray s 0 0 A) (F0 m 2 ls []) := by
    intro n2
    induction n2 with
    | zero => intro x1 x2 H locs ls hf; cases hf
    | succ n2 ih =>
      have ih2 := ih
      have B29 : ∀ (x1 : Int32) (x2 : Int32) (H : Heap) (locs : List Loc) (ls : Array Slot), f_X6_lentTo_b29 (f_X6_lentTo_l2 M n2) M x1 x2 = some r → WH D cI cR A (mws cI ad M) s H locs → lv_has ls 3 [(0, .ref (ad 0)), (1, .int x1), (2, .int x2)] → W p l e (headSpec wsX6_lentTo ({ frames := 1, cells := 0, slots := 0, locals := 22 })).room s m ([.ref (ad 0), .int a1] : List Value).toArray below meth c H locs 0 0 (MQ below (QV (some (.int r)) D A (mws cI ad M)) (([.ref (ad 0), .int a1] : List Value)).toArray s 0 0 A) (F0 m 29 ls []) := by
        intro x1 x2 H locs ls hf hw hl
        unfold f_X6_lentTo_b29 at hf
        obtain ⟨v1, hv1, hf⟩ := nmE hf
        refine lv_iinc (v := v1) (lv' := [(2, .int v1), (0, .ref (ad 0)), (1, .int x1)]) hx hb dX6_lentTo_29 hl (k := 2) rfl (by rw [hv1]; rfl) (by decide) rfl (fun ls hl => ?_)
        refine lv_goto (tgt := 2) hx hb dX6_lentTo_32 (by decide) ?_
        exact ih2 x1 v1 H locs ls hf hw (lv_sub hl [1, 2, 0] rfl)
      intro x1 x2 H locs ls hf hw hl
      simp only [f_X6_lentTo_l2] at hf
      refine lv_iload_n hx hb dX6_lentTo_2 rfl (lv_at hl 2 rfl) ?_
      refine lv_aload_n hx hb dX6_lentTo_3 rfl (lv_at hl 0 rfl) ?_
      refine q_get hx hb hts hiX6 hown hw 0 ma_0 rfl 1 (by decide) (hts (.fieldLink RX6 7 "LaceRanksModel" "s" "[I") (by decide +kernel)) rfl dX6_lentTo_4 ?_
      refine lv_iconst (v := 1) hx hb dX6_lentTo_7 (by decide) ?_
      obtain ⟨hg, hf⟩ := gdE hf
      obtain ⟨v1, hv1, hf⟩ := nmE hf
      refine q_iald hx hb hw 1 ma_1 (inb_in hg) dX6_lentTo_8 ?_
      refine q_is hv1 ?_
      refine lv_icmp_ge (tgt := 35) hx hb dX6_lentTo_9 (by decide) (fun hc => ?_) (fun hc => ?_)
      · have hf := iteT hf hc
        refine lv_iconst (v := (-1)) hx hb dX6_lentTo_35 (by decide) ?_
        cases hf
        exact q_iret hx hb hr hlocks hw dX6_lentTo_36
      · have hf := iteF hf hc
        refine lv_iload_n hx hb dX6_lentTo_12 rfl (lv_at hl 2 rfl) ?_
        refine lv_iload_n hx hb dX6_lentTo_13 rfl (lv_at hl 1 rfl) ?_
        refine lv_icmp_eq (tgt := 29) hx hb dX6_lentTo_14 (by decide) (fun hc => ?_) (fun hc => ?_)
        · have hf := iteT hf hc
          exact B29 x1 x2 H locs ls hf hw (lv_sub hl [0, 1, 2] rfl)
        · have hf := iteF hf hc
          refine lv_aload_n hx hb dX6_lentTo_17 rfl (lv_at hl 0 rfl) ?_
          refine lv_iload_n hx hb dX6_lentTo_18 rfl (lv_at hl 2 rfl) ?_
          refine lv_iconst (v := 4) hx hb dX6_lentTo_19 (by decide) ?_
          obtain ⟨r2, hr2, hf⟩ := bndS hf
          refine q_callV (rest := []) (st1 := [.int r2]) [.int x2, .int 4] ⟨hx, hb, hml, hown, hts⟩ (c_X6_of hr2) (cwV 2 hts gX6_lentTo_X6_of rfl rfl rfl (by decide +kernel) ⟨Nat.le_of_ble_eq_true rfl, Nat.le_of_ble_eq_true rfl⟩) hw ma_0 rfl rfl hl.1 rfl (Nat.le_of_ble_eq_true rfl) dX6_lentTo_20 ⟨Nat.zero_le _, Nat.zero_le _⟩ rfl (fun H locs hw => ?_)
          refine lv_iload_n hx hb dX6_lentTo_23 rfl (lv_at hl 1 rfl) ?_
          refine lv_icmp_ne (tgt := 29) hx hb dX6_lentTo_24 (by decide) (fun hc => ?_) (fun hc => ?_)
          · have hf := iteF hf hc
            exact B29 x1 x2 H locs ls hf hw (lv_sub hl [0, 1, 2] rfl)
          · have hf := iteT hf hc
            refine lv_iload_n hx hb dX6_lentTo_27 rfl (lv_at hl 2 rfl) ?_
            cases hf
            exact q_iret hx hb hr hlocks hw dX6_lentTo_28
  refine lv_iconst (v := 0) hx hb dX6_lentTo_0 (by decide) ?_
  refine lv_istore_n (lv' := [(2, .int 0), (0, .ref (ad 0)), (1, .int a1)]) hx hb dX6_lentTo_1 rfl hl (by decide) rfl (fun ls hl => ?_)
  exact L2 fuelN a1 0 H locs ls hf hw (lv_sub hl [1, 2, 0] rfl)

def f_X6_worn (M : MS)  (a1 : Int32) : Option Int32 := bnd (f_X6_of M a1 4) (fun r1 => (if r1 = (-1) then some 0 else bnd (f_X6_of M r1 3) (fun r2 => some r2)))
set_option maxHeartbeats 4000000 in
set_option maxRecDepth 100000 in
theorem c_X6_worn {l : Launch} {D : va_G} {cI cR : ClassId} {ad : Nat → Nat} {A : Nat → Prop} {M : MS}  {a1 : Int32} {r : Int32}  (hf : f_X6_worn M a1 = some r) : MC l yX6_worn wsX6_worn 1 22 D cI cR A [.ref (ad 0), .int a1] (mws cI ad M) (some (.int r)) (mws cI ad M) := by
  refine Met.ofW (cc := cX6_worn) (maxL := 3) (ret := (some .int)) (by decide) rfl ?_
  intro p e s m args below meth c s₁ B hml hv
  obtain ⟨rfl, hw⟩ := q_start hv
  have hx := B.exec
  have hb := B.bytes
  have hr := B.returns
  have hts := atoms_spec (ws := wsX6_worn) B.pre
  have hown : s.vm.findClass RX6 = some m.cls := findClass_of_methodNamed B.named
  have hlocks := B.notSynchronized
  have hl := lv_entry ([.ref (ad 0), .int a1]) (n := 3) (Nat.le_of_ble_eq_true rfl)
  rw [lg_entry_eq]
  generalize (lg_sl ([.ref (ad 0), .int a1]) ++ List.replicate (3 - (lg_sl ([.ref (ad 0), .int a1])).length) Slot.unset).toArray = ls at hl ⊢
  have hl : lv_has ls 3 [(0, .ref (ad 0)), (1, .int a1)] := hl
  unfold f_X6_worn at hf
  obtain ⟨H, eH⟩ : ∃ H, H = s.heap := ⟨_, rfl⟩
  obtain ⟨locs, eL⟩ : ∃ L : List Loc, L = [] := ⟨_, rfl⟩
  rw [← eH, ← eL] at hw ⊢
  clear eH eL
  refine lv_aload_n hx hb dX6_worn_0 rfl (lv_at hl 0 rfl) ?_
  refine lv_iload_n hx hb dX6_worn_1 rfl (lv_at hl 1 rfl) ?_
  refine lv_iconst (v := 4) hx hb dX6_worn_2 (by decide) ?_
  obtain ⟨r1, hr1, hf⟩ := bndS hf
  refine q_callV (rest := []) (st1 := [.int r1]) [.int a1, .int 4] ⟨hx, hb, hml, hown, hts⟩ (c_X6_of hr1) (cwV 2 hts gX6_worn_X6_of rfl rfl rfl (by decide +kernel) ⟨Nat.le_of_ble_eq_true rfl, Nat.le_of_ble_eq_true rfl⟩) hw ma_0 rfl rfl hl.1 rfl (Nat.le_of_ble_eq_true rfl) dX6_worn_3 ⟨Nat.zero_le _, Nat.zero_le _⟩ rfl (fun H locs hw => ?_)
  refine lv_istore_n (lv' := [(2, .int r1), (0, .ref (ad 0)), (1, .int a1)]) hx hb dX6_worn_6 rfl hl (by decide) rfl (fun ls hl => ?_)
  refine lv_iload_n hx hb dX6_worn_7 rfl (lv_at hl 0 rfl) ?_
  refine lv_iconst (v := (-1)) hx hb dX6_worn_8 (by decide) ?_
  refine lv_icmp_ne (tgt := 16) hx hb dX6_worn_9 (by decide) (fun hc => ?_) (fun hc => ?_)
  · have hf := iteF hf hc
    refine lv_aload_n hx hb dX6_worn_16 rfl (lv_at hl 1 rfl) ?_
    refine lv_iload_n hx hb dX6_worn_17 rfl (lv_at hl 0 rfl) ?_
    refine lv_iconst (v := 3) hx hb dX6_worn_18 (by decide) ?_
    obtain ⟨r2, hr2, hf⟩ := bndS hf
    refine q_callV (rest := []) (st1 := [.int r2]) [.int r1, .int 3] ⟨hx, hb, hml, hown, hts⟩ (c_X6_of hr2) (cwV 2 hts gX6_worn_X6_of rfl rfl rfl (by decide +kernel) ⟨Nat.le_of_ble_eq_true rfl, Nat.le_of_ble_eq_true rfl⟩) hw ma_0 rfl rfl hl.1 rfl (Nat.le_of_ble_eq_true rfl) dX6_worn_19 ⟨Nat.zero_le _, Nat.zero_le _⟩ rfl (fun H locs hw => ?_)
    cases hf
    exact q_iret hx hb hr hlocks hw dX6_worn_22
  · have hf := iteT hf hc
    refine lv_iconst (v := 0) hx hb dX6_worn_12 (by decide) ?_
    refine lv_goto (tgt := 22) hx hb dX6_worn_13 (by decide) ?_
    cases hf
    exact q_iret hx hb hr hlocks hw dX6_worn_22

def f_X6_whyNoLoan (M : MS)  (a1 : Int32) (a2 : Int32) : Option Int32 := (if a1 = a2 then some 1 else bnd (f_X6_of M a1 4) (fun r1 => (if r1 = a1 then bnd (f_X6_isBorrowed M a2) (fun r2 => (if r2 = 0 then bnd (f_X6_of M a2 6) (fun r3 => (if r3 = 1 then some 3 else some 0)) else some 3)) else some 2)))
set_option maxHeartbeats 4000000 in
set_option maxRecDepth 100000 in
theorem c_X6_whyNoLoan {l : Launch} {D : va_G} {cI cR : ClassId} {ad : Nat → Nat} {A : Nat → Prop} {M : MS}  {a1 : Int32} {a2 : Int32} {r : Int32}  (hf : f_X6_whyNoLoan M a1 a2 = some r) : MC l yX6_whyNoLoan wsX6_whyNoLoan 2 43 D cI cR A [.ref (ad 0), .int a1, .int a2] (mws cI ad M) (some (.int r)) (mws cI ad M) := by
  refine Met.ofW (cc := cX6_whyNoLoan) (maxL := 3) (ret := (some .int)) (by decide) rfl ?_
  intro p e s m args below meth c s₁ B hml hv
  obtain ⟨rfl, hw⟩ := q_start hv
  have hx := B.exec
  have hb := B.bytes
  have hr := B.returns
  have hts := atoms_spec (ws := wsX6_whyNoLoan) B.pre
  have hown : s.vm.findClass RX6 = some m.cls := findClass_of_methodNamed B.named
  have hlocks := B.notSynchronized
  have hl := lv_entry ([.ref (ad 0), .int a1, .int a2]) (n := 3) (Nat.le_of_ble_eq_true rfl)
  rw [lg_entry_eq]
  generalize (lg_sl ([.ref (ad 0), .int a1, .int a2]) ++ List.replicate (3 - (lg_sl ([.ref (ad 0), .int a1, .int a2])).length) Slot.unset).toArray = ls at hl ⊢
  have hl : lv_has ls 3 [(0, .ref (ad 0)), (1, .int a1), (2, .int a2)] := hl
  unfold f_X6_whyNoLoan at hf
  obtain ⟨H, eH⟩ : ∃ H, H = s.heap := ⟨_, rfl⟩
  obtain ⟨locs, eL⟩ : ∃ L : List Loc, L = [] := ⟨_, rfl⟩
  rw [← eH, ← eL] at hw ⊢
  clear eH eL
  refine lv_iload_n hx hb dX6_whyNoLoan_0 rfl (lv_at hl 1 rfl) ?_
  refine lv_iload_n hx hb dX6_whyNoLoan_1 rfl (lv_at hl 2 rfl) ?_
  refine lv_icmp_ne (tgt := 7) hx hb dX6_whyNoLoan_2 (by decide) (fun hc => ?_) (fun hc => ?_)
  · have hf := iteF hf hc
    refine lv_aload_n hx hb dX6_whyNoLoan_7 rfl (lv_at hl 0 rfl) ?_
    refine lv_iload_n hx hb dX6_whyNoLoan_8 rfl (lv_at hl 1 rfl) ?_
    refine lv_iconst (v := 4) hx hb dX6_whyNoLoan_9 (by decide) ?_
    obtain ⟨r1, hr1, hf⟩ := bndS hf
    refine q_callV (rest := []) (st1 := [.int r1]) [.int a1, .int 4] ⟨hx, hb, hml, hown, hts⟩ (c_X6_of hr1) (cwV 2 hts gX6_whyNoLoan_X6_of rfl rfl rfl (by decide +kernel) ⟨Nat.le_of_ble_eq_true rfl, Nat.le_of_ble_eq_true rfl⟩) hw ma_0 rfl rfl hl.1 rfl (Nat.le_of_ble_eq_true rfl) dX6_whyNoLoan_10 ⟨Nat.zero_le _, Nat.zero_le _⟩ rfl (fun H locs hw => ?_)
    refine lv_iload_n hx hb dX6_whyNoLoan_13 rfl (lv_at hl 1 rfl) ?_
    refine lv_icmp_eq (tgt := 19) hx hb dX6_whyNoLoan_14 (by decide) (fun hc => ?_) (fun hc => ?_)
    · have hf := iteT hf hc
      refine lv_aload_n hx hb dX6_whyNoLoan_19 rfl (lv_at hl 0 rfl) ?_
      refine lv_iload_n hx hb dX6_whyNoLoan_20 rfl (lv_at hl 2 rfl) ?_
      obtain ⟨r2, hr2, hf⟩ := bndS hf
      refine q_callV (rest := []) (st1 := [.int r2]) [.int a2] ⟨hx, hb, hml, hown, hts⟩ (c_X6_isBorrowed hr2) (cwV 1 hts gX6_whyNoLoan_X6_isBorrowed rfl rfl rfl (by decide +kernel) ⟨Nat.le_of_ble_eq_true rfl, Nat.le_of_ble_eq_true rfl⟩) hw ma_0 rfl rfl hl.1 rfl (Nat.le_of_ble_eq_true rfl) dX6_whyNoLoan_21 ⟨Nat.zero_le _, Nat.zero_le _⟩ rfl (fun H locs hw => ?_)
      refine lv_if_ne (tgt := 38) hx hb dX6_whyNoLoan_24 (by decide) (fun hc => ?_) (fun hc => ?_)
      · have hf := iteF hf hc
        refine lv_iconst (v := 3) hx hb dX6_whyNoLoan_38 (by decide) ?_
        refine lv_goto (tgt := 43) hx hb dX6_whyNoLoan_39 (by decide) ?_
        cases hf
        exact q_iret hx hb hr hlocks hw dX6_whyNoLoan_43
      · have hf := iteT hf hc
        refine lv_aload_n hx hb dX6_whyNoLoan_27 rfl (lv_at hl 0 rfl) ?_
        refine lv_iload_n hx hb dX6_whyNoLoan_28 rfl (lv_at hl 2 rfl) ?_
        refine lv_bipush (v := 6) hx hb dX6_whyNoLoan_29 (by decide) ?_
        obtain ⟨r3, hr3, hf⟩ := bndS hf
        refine q_callV (rest := []) (st1 := [.int r3]) [.int a2, .int 6] ⟨hx, hb, hml, hown, hts⟩ (c_X6_of hr3) (cwV 2 hts gX6_whyNoLoan_X6_of rfl rfl rfl (by decide +kernel) ⟨Nat.le_of_ble_eq_true rfl, Nat.le_of_ble_eq_true rfl⟩) hw ma_0 rfl rfl hl.1 rfl (Nat.le_of_ble_eq_true rfl) dX6_whyNoLoan_31 ⟨Nat.zero_le _, Nat.zero_le _⟩ rfl (fun H locs hw => ?_)
        refine lv_iconst (v := 1) hx hb dX6_whyNoLoan_34 (by decide) ?_
        refine lv_icmp_ne (tgt := 42) hx hb dX6_whyNoLoan_35 (by decide) (fun hc => ?_) (fun hc => ?_)
        · have hf := iteF hf hc
          refine lv_iconst (v := 0) hx hb dX6_whyNoLoan_42 (by decide) ?_
          cases hf
          exact q_iret hx hb hr hlocks hw dX6_whyNoLoan_43
        · have hf := iteT hf hc
          refine lv_iconst (v := 3) hx hb dX6_whyNoLoan_38 (by decide) ?_
          refine lv_goto (tgt := 43) hx hb dX6_whyNoLoan_39 (by decide) ?_
          cases hf
          exact q_iret hx hb hr hlocks hw dX6_whyNoLoan_43
    · have hf := iteF hf hc
      refine lv_iconst (v := 2) hx hb dX6_whyNoLoan_17 (by decide) ?_
      cases hf
      exact q_iret hx hb hr hlocks hw dX6_whyNoLoan_18
  · have hf := iteT hf hc
    refine lv_iconst (v := 1) hx hb dX6_whyNoLoan_5 (by decide) ?_
    cases hf
    exact q_iret hx hb hr hlocks hw dX6_whyNoLoan_6

def f_X6_lends (M : MS)  (a1 : Int32) (a2 : Int32) : Option (Int32 × MS) := bnd (f_X6_lay M a1 4 (-1)) (fun M1 => bnd (f_X6_lay M1 a2 4 a1) (fun M2 => bnd (f_X6_of M2 a1 3) (fun r3 => some (r3, M2))))
set_option maxHeartbeats 4000000 in
set_option maxRecDepth 100000 in
theorem c_X6_lends {l : Launch} {D : va_G} {cI cR : ClassId} {ad : Nat → Nat} {A : Nat → Prop} {M : MS} {M' : MS} {a1 : Int32} {a2 : Int32} {r : Int32}  (hf : f_X6_lends M a1 a2 = some (r, M')) : MC l yX6_lends wsX6_lends 1 23 D cI cR A [.ref (ad 0), .int a1, .int a2] (mws cI ad M) (some (.int r)) (mws cI ad M') := by
  refine Met.ofW (cc := cX6_lends) (maxL := 3) (ret := (some .int)) (by decide) rfl ?_
  intro p e s m args below meth c s₁ B hml hv
  obtain ⟨rfl, hw⟩ := q_start hv
  have hx := B.exec
  have hb := B.bytes
  have hr := B.returns
  have hts := atoms_spec (ws := wsX6_lends) B.pre
  have hown : s.vm.findClass RX6 = some m.cls := findClass_of_methodNamed B.named
  have hlocks := B.notSynchronized
  have hl := lv_entry ([.ref (ad 0), .int a1, .int a2]) (n := 3) (Nat.le_of_ble_eq_true rfl)
  rw [lg_entry_eq]
  generalize (lg_sl ([.ref (ad 0), .int a1, .int a2]) ++ List.replicate (3 - (lg_sl ([.ref (ad 0), .int a1, .int a2])).length) Slot.unset).toArray = ls at hl ⊢
  have hl : lv_has ls 3 [(0, .ref (ad 0)), (1, .int a1), (2, .int a2)] := hl
  unfold f_X6_lends at hf
  obtain ⟨H, eH⟩ : ∃ H, H = s.heap := ⟨_, rfl⟩
  obtain ⟨locs, eL⟩ : ∃ L : List Loc, L = [] := ⟨_, rfl⟩
  rw [← eH, ← eL] at hw ⊢
  clear eH eL
  refine lv_aload_n hx hb dX6_lends_0 rfl (lv_at hl 0 rfl) ?_
  refine lv_iload_n hx hb dX6_lends_1 rfl (lv_at hl 1 rfl) ?_
  refine lv_iconst (v := 4) hx hb dX6_lends_2 (by decide) ?_
  refine lv_iconst (v := (-1)) hx hb dX6_lends_3 (by decide) ?_
  obtain ⟨M1, hr1, hf⟩ := bndS hf
  refine q_callV (rest := []) (st1 := []) [.int a1, .int 4, .int (-1)] ⟨hx, hb, hml, hown, hts⟩ (c_X6_lay hr1) (cwV 3 hts gX6_lends_X6_lay rfl rfl rfl (by decide +kernel) ⟨Nat.le_of_ble_eq_true rfl, Nat.le_of_ble_eq_true rfl⟩) hw ma_0 rfl rfl hl.1 rfl (Nat.le_of_ble_eq_true rfl) dX6_lends_4 ⟨Nat.zero_le _, Nat.zero_le _⟩ rfl (fun H locs hw => ?_)
  refine lv_aload_n hx hb dX6_lends_7 rfl (lv_at hl 0 rfl) ?_
  refine lv_iload_n hx hb dX6_lends_8 rfl (lv_at hl 2 rfl) ?_
  refine lv_iconst (v := 4) hx hb dX6_lends_9 (by decide) ?_
  refine lv_iload_n hx hb dX6_lends_10 rfl (lv_at hl 1 rfl) ?_
  obtain ⟨M2, hr2, hf⟩ := bndS hf
  refine q_callV (rest := []) (st1 := []) [.int a2, .int 4, .int a1] ⟨hx, hb, hml, hown, hts⟩ (c_X6_lay hr2) (cwV 3 hts gX6_lends_X6_lay rfl rfl rfl (by decide +kernel) ⟨Nat.le_of_ble_eq_true rfl, Nat.le_of_ble_eq_true rfl⟩) hw ma_0 rfl rfl hl.1 rfl (Nat.le_of_ble_eq_true rfl) dX6_lends_11 ⟨Nat.zero_le _, Nat.zero_le _⟩ rfl (fun H locs hw => ?_)
  refine lv_aload_n hx hb dX6_lends_14 rfl (lv_at hl 0 rfl) ?_
  refine lv_iload_n hx hb dX6_lends_15 rfl (lv_at hl 1 rfl) ?_
  refine lv_iconst (v := 3) hx hb dX6_lends_16 (by decide) ?_
  obtain ⟨r3, hr3, hf⟩ := bndS hf
  refine q_callV (rest := []) (st1 := [.int r3]) [.int a1, .int 3] ⟨hx, hb, hml, hown, hts⟩ (c_X6_of hr3) (cwV 2 hts gX6_lends_X6_of rfl rfl rfl (by decide +kernel) ⟨Nat.le_of_ble_eq_true rfl, Nat.le_of_ble_eq_true rfl⟩) hw ma_0 rfl rfl hl.1 rfl (Nat.le_of_ble_eq_true rfl) dX6_lends_17 ⟨Nat.zero_le _, Nat.zero_le _⟩ rfl (fun H locs hw => ?_)
  cases hf
  exact q_iret hx hb hr hlocks hw dX6_lends_20

def f_X6_canGiveBack (M : MS)  (a1 : Int32) : Option Int32 := bnd (f_X6_isBorrowed M a1) (fun r1 => (if r1 = 0 then some 0 else bnd (f_X6_of M a1 6) (fun r2 => (if r2 = 0 then bnd (f_X6_of M a1 4) (fun r3 => bnd (f_X6_of M r3 6) (fun r4 => (if r4 = 0 then some 1 else some 0))) else some 0))))
set_option maxHeartbeats 4000000 in
set_option maxRecDepth 100000 in
theorem c_X6_canGiveBack {l : Launch} {D : va_G} {cI cR : ClassId} {ad : Nat → Nat} {A : Nat → Prop} {M : MS}  {a1 : Int32} {r : Int32}  (hf : f_X6_canGiveBack M a1 = some r) : MC l yX6_canGiveBack wsX6_canGiveBack 2 43 D cI cR A [.ref (ad 0), .int a1] (mws cI ad M) (some (.int r)) (mws cI ad M) := by
  refine Met.ofW (cc := cX6_canGiveBack) (maxL := 2) (ret := (some .boolean)) (by decide) rfl ?_
  intro p e s m args below meth c s₁ B hml hv
  obtain ⟨rfl, hw⟩ := q_start hv
  have hx := B.exec
  have hb := B.bytes
  have hr := B.returns
  have hts := atoms_spec (ws := wsX6_canGiveBack) B.pre
  have hown : s.vm.findClass RX6 = some m.cls := findClass_of_methodNamed B.named
  have hlocks := B.notSynchronized
  have hl := lv_entry ([.ref (ad 0), .int a1]) (n := 2) (Nat.le_of_ble_eq_true rfl)
  rw [lg_entry_eq]
  generalize (lg_sl ([.ref (ad 0), .int a1]) ++ List.replicate (2 - (lg_sl ([.ref (ad 0), .int a1])).length) Slot.unset).toArray = ls at hl ⊢
  have hl : lv_has ls 2 [(0, .ref (ad 0)), (1, .int a1)] := hl
  unfold f_X6_canGiveBack at hf
  obtain ⟨H, eH⟩ : ∃ H, H = s.heap := ⟨_, rfl⟩
  obtain ⟨locs, eL⟩ : ∃ L : List Loc, L = [] := ⟨_, rfl⟩
  rw [← eH, ← eL] at hw ⊢
  clear eH eL
  refine lv_aload_n hx hb dX6_canGiveBack_0 rfl (lv_at hl 0 rfl) ?_
  refine lv_iload_n hx hb dX6_canGiveBack_1 rfl (lv_at hl 1 rfl) ?_
  obtain ⟨r1, hr1, hf⟩ := bndS hf
  refine q_callV (rest := []) (st1 := [.int r1]) [.int a1] ⟨hx, hb, hml, hown, hts⟩ (c_X6_isBorrowed hr1) (cwV 1 hts gX6_canGiveBack_X6_isBorrowed rfl rfl rfl (by decide +kernel) ⟨Nat.le_of_ble_eq_true rfl, Nat.le_of_ble_eq_true rfl⟩) hw ma_0 rfl rfl hl.1 rfl (Nat.le_of_ble_eq_true rfl) dX6_canGiveBack_2 ⟨Nat.zero_le _, Nat.zero_le _⟩ rfl (fun H locs hw => ?_)
  refine lv_if_eq (tgt := 37) hx hb dX6_canGiveBack_5 (by decide) (fun hc => ?_) (fun hc => ?_)
  · have hf := iteT hf hc
    refine lv_iconst (v := 0) hx hb dX6_canGiveBack_37 (by decide) ?_
    cases hf
    exact q_zret hx hb hr nb_0 hlocks hw dX6_canGiveBack_38
  · have hf := iteF hf hc
    refine lv_aload_n hx hb dX6_canGiveBack_8 rfl (lv_at hl 0 rfl) ?_
    refine lv_iload_n hx hb dX6_canGiveBack_9 rfl (lv_at hl 1 rfl) ?_
    refine lv_bipush (v := 6) hx hb dX6_canGiveBack_10 (by decide) ?_
    obtain ⟨r2, hr2, hf⟩ := bndS hf
    refine q_callV (rest := []) (st1 := [.int r2]) [.int a1, .int 6] ⟨hx, hb, hml, hown, hts⟩ (c_X6_of hr2) (cwV 2 hts gX6_canGiveBack_X6_of rfl rfl rfl (by decide +kernel) ⟨Nat.le_of_ble_eq_true rfl, Nat.le_of_ble_eq_true rfl⟩) hw ma_0 rfl rfl hl.1 rfl (Nat.le_of_ble_eq_true rfl) dX6_canGiveBack_12 ⟨Nat.zero_le _, Nat.zero_le _⟩ rfl (fun H locs hw => ?_)
    refine lv_if_ne (tgt := 37) hx hb dX6_canGiveBack_15 (by decide) (fun hc => ?_) (fun hc => ?_)
    · have hf := iteF hf hc
      refine lv_iconst (v := 0) hx hb dX6_canGiveBack_37 (by decide) ?_
      cases hf
      exact q_zret hx hb hr nb_0 hlocks hw dX6_canGiveBack_38
    · have hf := iteT hf hc
      refine lv_aload_n hx hb dX6_canGiveBack_18 rfl (lv_at hl 0 rfl) ?_
      refine lv_aload_n hx hb dX6_canGiveBack_19 rfl (lv_at hl 0 rfl) ?_
      refine lv_iload_n hx hb dX6_canGiveBack_20 rfl (lv_at hl 1 rfl) ?_
      refine lv_iconst (v := 4) hx hb dX6_canGiveBack_21 (by decide) ?_
      obtain ⟨r3, hr3, hf⟩ := bndS hf
      refine q_callV (rest := [.ref (ad 0)]) (st1 := [.int r3, .ref (ad 0)]) [.int a1, .int 4] ⟨hx, hb, hml, hown, hts⟩ (c_X6_of hr3) (cwV 2 hts gX6_canGiveBack_X6_of rfl rfl rfl (by decide +kernel) ⟨Nat.le_of_ble_eq_true rfl, Nat.le_of_ble_eq_true rfl⟩) hw ma_0 rfl rfl hl.1 rfl (Nat.le_of_ble_eq_true rfl) dX6_canGiveBack_22 ⟨Nat.zero_le _, Nat.zero_le _⟩ rfl (fun H locs hw => ?_)
      refine lv_bipush (v := 6) hx hb dX6_canGiveBack_25 (by decide) ?_
      obtain ⟨r4, hr4, hf⟩ := bndS hf
      refine q_callV (rest := []) (st1 := [.int r4]) [.int r3, .int 6] ⟨hx, hb, hml, hown, hts⟩ (c_X6_of hr4) (cwV 2 hts gX6_canGiveBack_X6_of rfl rfl rfl (by decide +kernel) ⟨Nat.le_of_ble_eq_true rfl, Nat.le_of_ble_eq_true rfl⟩) hw ma_0 rfl rfl hl.1 rfl (Nat.le_of_ble_eq_true rfl) dX6_canGiveBack_27 ⟨Nat.zero_le _, Nat.zero_le _⟩ rfl (fun H locs hw => ?_)
      refine lv_if_ne (tgt := 37) hx hb dX6_canGiveBack_30 (by decide) (fun hc => ?_) (fun hc => ?_)
      · have hf := iteF hf hc
        refine lv_iconst (v := 0) hx hb dX6_canGiveBack_37 (by decide) ?_
        cases hf
        exact q_zret hx hb hr nb_0 hlocks hw dX6_canGiveBack_38
      · have hf := iteT hf hc
        refine lv_iconst (v := 1) hx hb dX6_canGiveBack_33 (by decide) ?_
        refine lv_goto (tgt := 38) hx hb dX6_canGiveBack_34 (by decide) ?_
        cases hf
        exact q_zret hx hb hr nb_1 hlocks hw dX6_canGiveBack_38

def f_X6_lineLength (M : MS)  (a1 : Int32) : Option Int32 := gd (inb (86 + (11 * a1)) 952) (nm (M.1 0 (86 + (11 * a1)).toNatClampNeg) (fun v1 => some v1))
set_option maxHeartbeats 4000000 in
set_option maxRecDepth 100000 in
theorem c_X6_lineLength {l : Launch} {D : va_G} {cI cR : ClassId} {ad : Nat → Nat} {A : Nat → Prop} {M : MS}  {a1 : Int32} {r : Int32}  (hf : f_X6_lineLength M a1 = some r) : MC l yX6_lineLength wsX6_lineLength 0 0 D cI cR A [.ref (ad 0), .int a1] (mws cI ad M) (some (.int r)) (mws cI ad M) := by
  refine Met.ofW (cc := cX6_lineLength) (maxL := 2) (ret := (some .int)) (by decide) rfl ?_
  intro p e s m args below meth c s₁ B hml hv
  obtain ⟨rfl, hw⟩ := q_start hv
  have hx := B.exec
  have hb := B.bytes
  have hr := B.returns
  have hts := atoms_spec (ws := wsX6_lineLength) B.pre
  have hown : s.vm.findClass RX6 = some m.cls := findClass_of_methodNamed B.named
  have hlocks := B.notSynchronized
  have hiX6 : ∀ w ∈ wsX60, w ∈ wsX6_lineLength := by decide +kernel
  have hl := lv_entry ([.ref (ad 0), .int a1]) (n := 2) (Nat.le_of_ble_eq_true rfl)
  rw [lg_entry_eq]
  generalize (lg_sl ([.ref (ad 0), .int a1]) ++ List.replicate (2 - (lg_sl ([.ref (ad 0), .int a1])).length) Slot.unset).toArray = ls at hl ⊢
  have hl : lv_has ls 2 [(0, .ref (ad 0)), (1, .int a1)] := hl
  unfold f_X6_lineLength at hf
  obtain ⟨H, eH⟩ : ∃ H, H = s.heap := ⟨_, rfl⟩
  obtain ⟨locs, eL⟩ : ∃ L : List Loc, L = [] := ⟨_, rfl⟩
  rw [← eH, ← eL] at hw ⊢
  clear eH eL
  refine lv_aload_n hx hb dX6_lineLength_0 rfl (lv_at hl 0 rfl) ?_
  refine q_get hx hb hts hiX6 hown hw 0 ma_0 rfl 1 (by decide) (hts (.fieldLink RX6 7 "LaceRanksModel" "s" "[I") (by decide +kernel)) rfl dX6_lineLength_1 ?_
  refine lv_bipush (v := 86) hx hb dX6_lineLength_4 (by decide) ?_
  refine lv_bipush (v := 11) hx hb dX6_lineLength_6 (by decide) ?_
  refine lv_iload_n hx hb dX6_lineLength_8 rfl (lv_at hl 1 rfl) ?_
  refine lv_imul hx hb dX6_lineLength_9 ?_
  refine lv_iadd hx hb dX6_lineLength_10 ?_
  obtain ⟨hg, hf⟩ := gdE hf
  obtain ⟨v1, hv1, hf⟩ := nmE hf
  refine q_iald hx hb hw 1 ma_1 (inb_in hg) dX6_lineLength_11 ?_
  refine q_is hv1 ?_
  cases hf
  exact q_iret hx hb hr hlocks hw dX6_lineLength_12

def f_X6_inLine (M : MS)  (a1 : Int32) (a2 : Int32) : Option Int32 := gd (inb (((86 + (11 * a1)) + 1) + a2) 952) (nm (M.1 0 (((86 + (11 * a1)) + 1) + a2).toNatClampNeg) (fun v1 => some v1))
set_option maxHeartbeats 4000000 in
set_option maxRecDepth 100000 in
theorem c_X6_inLine {l : Launch} {D : va_G} {cI cR : ClassId} {ad : Nat → Nat} {A : Nat → Prop} {M : MS}  {a1 : Int32} {a2 : Int32} {r : Int32}  (hf : f_X6_inLine M a1 a2 = some r) : MC l yX6_inLine wsX6_inLine 0 0 D cI cR A [.ref (ad 0), .int a1, .int a2] (mws cI ad M) (some (.int r)) (mws cI ad M) := by
  refine Met.ofW (cc := cX6_inLine) (maxL := 3) (ret := (some .int)) (by decide) rfl ?_
  intro p e s m args below meth c s₁ B hml hv
  obtain ⟨rfl, hw⟩ := q_start hv
  have hx := B.exec
  have hb := B.bytes
  have hr := B.returns
  have hts := atoms_spec (ws := wsX6_inLine) B.pre
  have hown : s.vm.findClass RX6 = some m.cls := findClass_of_methodNamed B.named
  have hlocks := B.notSynchronized
  have hiX6 : ∀ w ∈ wsX60, w ∈ wsX6_inLine := by decide +kernel
  have hl := lv_entry ([.ref (ad 0), .int a1, .int a2]) (n := 3) (Nat.le_of_ble_eq_true rfl)
  rw [lg_entry_eq]
  generalize (lg_sl ([.ref (ad 0), .int a1, .int a2]) ++ List.replicate (3 - (lg_sl ([.ref (ad 0), .int a1, .int a2])).length) Slot.unset).toArray = ls at hl ⊢
  have hl : lv_has ls 3 [(0, .ref (ad 0)), (1, .int a1), (2, .int a2)] := hl
  unfold f_X6_inLine at hf
  obtain ⟨H, eH⟩ : ∃ H, H = s.heap := ⟨_, rfl⟩
  obtain ⟨locs, eL⟩ : ∃ L : List Loc, L = [] := ⟨_, rfl⟩
  rw [← eH, ← eL] at hw ⊢
  clear eH eL
  refine lv_aload_n hx hb dX6_inLine_0 rfl (lv_at hl 0 rfl) ?_
  refine q_get hx hb hts hiX6 hown hw 0 ma_0 rfl 1 (by decide) (hts (.fieldLink RX6 7 "LaceRanksModel" "s" "[I") (by decide +kernel)) rfl dX6_inLine_1 ?_
  refine lv_bipush (v := 86) hx hb dX6_inLine_4 (by decide) ?_
  refine lv_bipush (v := 11) hx hb dX6_inLine_6 (by decide) ?_
  refine lv_iload_n hx hb dX6_inLine_8 rfl (lv_at hl 1 rfl) ?_
  refine lv_imul hx hb dX6_inLine_9 ?_
  refine lv_iadd hx hb dX6_inLine_10 ?_
  refine lv_iconst (v := 1) hx hb dX6_inLine_11 (by decide) ?_
  refine lv_iadd hx hb dX6_inLine_12 ?_
  refine lv_iload_n hx hb dX6_inLine_13 rfl (lv_at hl 2 rfl) ?_
  refine lv_iadd hx hb dX6_inLine_14 ?_
  obtain ⟨hg, hf⟩ := gdE hf
  obtain ⟨v1, hv1, hf⟩ := nmE hf
  refine q_iald hx hb hw 1 ma_1 (inb_in hg) dX6_inLine_15 ?_
  refine q_is hv1 ?_
  cases hf
  exact q_iret hx hb hr hlocks hw dX6_inLine_16

def f_X6_standing_l9 (k2 : Int32 → Int32 → Option Int32) (M : MS)  : Nat → Int32 → Int32 → Int32 → Option Int32
  | 0, _, _, _ => none
  | n9 + 1, x1, x2, x3 => bnd (f_X6_lineLength M x2) (fun r1 => (if r1 ≤ x3 then nm (x2 + 1) (fun v2 => k2 x1 v2) else bnd (f_X6_inLine M x2 x3) (fun r3 => (if r3 = x1 then some ((16 * x2) + x3) else nm (x3 + 1) (fun v4 => (f_X6_standing_l9 k2 M n9) x1 x2 v4)))))
def f_X6_standing_l2  (M : MS)  : Nat → Int32 → Int32 → Option Int32
  | 0, _, _ => none
  | n2 + 1, x1, x2 => (if 3 ≤ x2 then some (-1) else f_X6_standing_l9 (f_X6_standing_l2 M n2) M fuelN x1 x2 0)
def f_X6_standing (M : MS)  (a1 : Int32) : Option Int32 := f_X6_standing_l2 M fuelN a1 0
set_option maxHeartbeats 4000000 in
set_option maxRecDepth 100000 in
theorem c_X6_standing {l : Launch} {D : va_G} {cI cR : ClassId} {ad : Nat → Nat} {A : Nat → Prop} {M : MS}  {a1 : Int32} {r : Int32}  (hf : f_X6_standing M a1 = some r) : MC l yX6_standing wsX6_standing 1 22 D cI cR A [.ref (ad 0), .int a1] (mws cI ad M) (some (.int r)) (mws cI ad M) := by
  refine Met.ofW (cc := cX6_standing) (maxL := 4) (ret := (some .int)) (by decide) rfl ?_
  intro p e s m args below meth c s₁ B hml hv
  obtain ⟨rfl, hw⟩ := q_start hv
  have hx := B.exec
  have hb := B.bytes
  have hr := B.returns
  have hts := atoms_spec (ws := wsX6_standing) B.pre
  have hown : s.vm.findClass RX6 = some m.cls := findClass_of_methodNamed B.named
  have hlocks := B.notSynchronized
  have hl := lv_entry ([.ref (ad 0), .int a1]) (n := 4) (Nat.le_of_ble_eq_true rfl)
  rw [lg_entry_eq]
  generalize (lg_sl ([.ref (ad 0), .int a1]) ++ List.replicate (4 - (lg_sl ([.ref (ad 0), .int a1])).length) Slot.unset).toArray = ls at hl ⊢
  have hl : lv_has ls 4 [(0, .ref (ad 0)), (1, .int a1)] := hl
  unfold f_X6_standing at hf
  obtain ⟨H, eH⟩ : ∃ H, H = s.heap := ⟨_, rfl⟩
  obtain ⟨locs, eL⟩ : ∃ L : List Loc, L = [] := ⟨_, rfl⟩
  rw [← eH, ← eL] at hw ⊢
  clear eH eL
  have L2 : ∀ (n2 : Nat) (x1 : Int32) (x2 : Int32) (H : Heap) (locs : List Loc) (ls : Array Slot), f_X6_standing_l2 M n2 x1 x2 = some r → WH D cI cR A (mws cI ad M) s H locs → lv_has ls 4 [(0, .ref (ad 0)), (1, .int x1), (2, .int x2)] → W p l e (headSpec wsX6_standing ({ frames := 1, cells := 0, slots := 0, locals := 22 })).room s m ([.ref (ad 0), .int a1] : List Value).toArray below meth c H locs 0 0 (MQ below (QV (some (.int r)) D A (mws cI ad M)) (([.ref (ad 0), .int a1] : List Value)).toArray s 0 0 A) (F0 m 2 ls []) := by
    intro n2
    induction n2 with
    | zero => intro x1 x2 H locs ls hf; cases hf
    | succ n2 ih =>
      have ih2 := ih
      have L9 : ∀ (n9 : Nat) (x1 : Int32) (x2 : Int32) (x3 : Int32) (H : Heap) (locs : List Loc) (ls : Array Slot), f_X6_standing_l9 (f_X6_standing_l2 M n2) M n9 x1 x2 x3 = some r → WH D cI cR A (mws cI ad M) s H locs → lv_has ls 4 [(0, .ref (ad 0)), (1, .int x1), (2, .int x2), (3, .int x3)] → W p l e (headSpec wsX6_standing ({ frames := 1, cells := 0, slots := 0, locals := 22 })).room s m ([.ref (ad 0), .int a1] : List Value).toArray below meth c H locs 0 0 (MQ below (QV (some (.int r)) D A (mws cI ad M)) (([.ref (ad 0), .int a1] : List Value)).toArray s 0 0 A) (F0 m 9 ls []) := by
        intro n9
        induction n9 with
        | zero => intro x1 x2 x3 H locs ls hf; cases hf
        | succ n9 ih =>
          have ih9 := ih
          intro x1 x2 x3 H locs ls hf hw hl
          simp only [f_X6_standing_l9] at hf
          refine lv_iload_n hx hb dX6_standing_9 rfl (lv_at hl 3 rfl) ?_
          refine lv_aload_n hx hb dX6_standing_10 rfl (lv_at hl 0 rfl) ?_
          refine lv_iload_n hx hb dX6_standing_11 rfl (lv_at hl 2 rfl) ?_
          obtain ⟨r1, hr1, hf⟩ := bndS hf
          refine q_callV (rest := [.int x3]) (st1 := [.int r1, .int x3]) [.int x2] ⟨hx, hb, hml, hown, hts⟩ (c_X6_lineLength hr1) (cwV 1 hts gX6_standing_X6_lineLength rfl rfl rfl (by decide +kernel) ⟨Nat.le_of_ble_eq_true rfl, Nat.le_of_ble_eq_true rfl⟩) hw ma_0 rfl rfl hl.1 rfl (Nat.le_of_ble_eq_true rfl) dX6_standing_12 ⟨Nat.zero_le _, Nat.zero_le _⟩ rfl (fun H locs hw => ?_)
          refine lv_icmp_ge (tgt := 41) hx hb dX6_standing_15 (by decide) (fun hc => ?_) (fun hc => ?_)
          · have hf := iteT hf hc
            obtain ⟨v2, hv2, hf⟩ := nmE hf
            refine lv_iinc (v := v2) (lv' := [(2, .int v2), (0, .ref (ad 0)), (1, .int x1), (3, .int x3)]) hx hb dX6_standing_41 hl (k := 2) rfl (by rw [hv2]; rfl) (by decide) rfl (fun ls hl => ?_)
            refine lv_goto (tgt := 2) hx hb dX6_standing_44 (by decide) ?_
            exact ih2 x1 v2 H locs ls hf hw (lv_sub hl [1, 2, 0] rfl)
          · have hf := iteF hf hc
            refine lv_aload_n hx hb dX6_standing_18 rfl (lv_at hl 0 rfl) ?_
            refine lv_iload_n hx hb dX6_standing_19 rfl (lv_at hl 2 rfl) ?_
            refine lv_iload_n hx hb dX6_standing_20 rfl (lv_at hl 3 rfl) ?_
            obtain ⟨r3, hr3, hf⟩ := bndS hf
            refine q_callV (rest := []) (st1 := [.int r3]) [.int x2, .int x3] ⟨hx, hb, hml, hown, hts⟩ (c_X6_inLine hr3) (cwV 2 hts gX6_standing_X6_inLine rfl rfl rfl (by decide +kernel) ⟨Nat.le_of_ble_eq_true rfl, Nat.le_of_ble_eq_true rfl⟩) hw ma_0 rfl rfl hl.1 rfl (Nat.le_of_ble_eq_true rfl) dX6_standing_21 ⟨Nat.zero_le _, Nat.zero_le _⟩ rfl (fun H locs hw => ?_)
            refine lv_iload_n hx hb dX6_standing_24 rfl (lv_at hl 1 rfl) ?_
            refine lv_icmp_ne (tgt := 35) hx hb dX6_standing_25 (by decide) (fun hc => ?_) (fun hc => ?_)
            · have hf := iteF hf hc
              obtain ⟨v4, hv4, hf⟩ := nmE hf
              refine lv_iinc (v := v4) (lv' := [(3, .int v4), (0, .ref (ad 0)), (1, .int x1), (2, .int x2)]) hx hb dX6_standing_35 hl (k := 3) rfl (by rw [hv4]; rfl) (by decide) rfl (fun ls hl => ?_)
              refine lv_goto (tgt := 9) hx hb dX6_standing_38 (by decide) ?_
              exact ih9 x1 x2 v4 H locs ls hf hw (lv_sub hl [1, 2, 3, 0] rfl)
            · have hf := iteT hf hc
              refine lv_bipush (v := 16) hx hb dX6_standing_28 (by decide) ?_
              refine lv_iload_n hx hb dX6_standing_30 rfl (lv_at hl 2 rfl) ?_
              refine lv_imul hx hb dX6_standing_31 ?_
              refine lv_iload_n hx hb dX6_standing_32 rfl (lv_at hl 3 rfl) ?_
              refine lv_iadd hx hb dX6_standing_33 ?_
              cases hf
              exact q_iret hx hb hr hlocks hw dX6_standing_34
      intro x1 x2 H locs ls hf hw hl
      simp only [f_X6_standing_l2] at hf
      refine lv_iload_n hx hb dX6_standing_2 rfl (lv_at hl 2 rfl) ?_
      refine lv_iconst (v := 3) hx hb dX6_standing_3 (by decide) ?_
      refine lv_icmp_ge (tgt := 47) hx hb dX6_standing_4 (by decide) (fun hc => ?_) (fun hc => ?_)
      · have hf := iteT hf hc
        refine lv_iconst (v := (-1)) hx hb dX6_standing_47 (by decide) ?_
        cases hf
        exact q_iret hx hb hr hlocks hw dX6_standing_48
      · have hf := iteF hf hc
        refine lv_iconst (v := 0) hx hb dX6_standing_7 (by decide) ?_
        refine lv_istore_n (lv' := [(3, .int 0), (0, .ref (ad 0)), (1, .int x1), (2, .int x2)]) hx hb dX6_standing_8 rfl hl (by decide) rfl (fun ls hl => ?_)
        exact L9 fuelN x1 x2 0 H locs ls hf hw (lv_sub hl [1, 2, 3, 0] rfl)
  refine lv_iconst (v := 0) hx hb dX6_standing_0 (by decide) ?_
  refine lv_istore_n (lv' := [(2, .int 0), (0, .ref (ad 0)), (1, .int a1)]) hx hb dX6_standing_1 rfl hl (by decide) rfl (fun ls hl => ?_)
  exact L2 fuelN a1 0 H locs ls hf hw (lv_sub hl [1, 2, 0] rfl)

def f_X6_whyNoLine (M : MS)  (a1 : Int32) : Option Int32 := bnd (f_X6_of M a1 6) (fun r1 => (if r1 = 1 then some 5 else bnd (f_X6_standing M a1) (fun r2 => (if r2 = (-1) then bnd (f_X6_of M a1 2) (fun r3 => gd (inb 15 952) (nm (M.1 0 (15 : Int32).toNatClampNeg) (fun v4 => (if r3 ≤ v4 then some 0 else some 7)))) else some 6))))
set_option maxHeartbeats 4000000 in
set_option maxRecDepth 100000 in
theorem c_X6_whyNoLine {l : Launch} {D : va_G} {cI cR : ClassId} {ad : Nat → Nat} {A : Nat → Prop} {M : MS}  {a1 : Int32} {r : Int32}  (hf : f_X6_whyNoLine M a1 = some r) : MC l yX6_whyNoLine wsX6_whyNoLine 2 45 D cI cR A [.ref (ad 0), .int a1] (mws cI ad M) (some (.int r)) (mws cI ad M) := by
  refine Met.ofW (cc := cX6_whyNoLine) (maxL := 2) (ret := (some .int)) (by decide) rfl ?_
  intro p e s m args below meth c s₁ B hml hv
  obtain ⟨rfl, hw⟩ := q_start hv
  have hx := B.exec
  have hb := B.bytes
  have hr := B.returns
  have hts := atoms_spec (ws := wsX6_whyNoLine) B.pre
  have hown : s.vm.findClass RX6 = some m.cls := findClass_of_methodNamed B.named
  have hlocks := B.notSynchronized
  have hiX6 : ∀ w ∈ wsX60, w ∈ wsX6_whyNoLine := by decide +kernel
  have hl := lv_entry ([.ref (ad 0), .int a1]) (n := 2) (Nat.le_of_ble_eq_true rfl)
  rw [lg_entry_eq]
  generalize (lg_sl ([.ref (ad 0), .int a1]) ++ List.replicate (2 - (lg_sl ([.ref (ad 0), .int a1])).length) Slot.unset).toArray = ls at hl ⊢
  have hl : lv_has ls 2 [(0, .ref (ad 0)), (1, .int a1)] := hl
  unfold f_X6_whyNoLine at hf
  obtain ⟨H, eH⟩ : ∃ H, H = s.heap := ⟨_, rfl⟩
  obtain ⟨locs, eL⟩ : ∃ L : List Loc, L = [] := ⟨_, rfl⟩
  rw [← eH, ← eL] at hw ⊢
  clear eH eL
  refine lv_aload_n hx hb dX6_whyNoLine_0 rfl (lv_at hl 0 rfl) ?_
  refine lv_iload_n hx hb dX6_whyNoLine_1 rfl (lv_at hl 1 rfl) ?_
  refine lv_bipush (v := 6) hx hb dX6_whyNoLine_2 (by decide) ?_
  obtain ⟨r1, hr1, hf⟩ := bndS hf
  refine q_callV (rest := []) (st1 := [.int r1]) [.int a1, .int 6] ⟨hx, hb, hml, hown, hts⟩ (c_X6_of hr1) (cwV 2 hts gX6_whyNoLine_X6_of rfl rfl rfl (by decide +kernel) ⟨Nat.le_of_ble_eq_true rfl, Nat.le_of_ble_eq_true rfl⟩) hw ma_0 rfl rfl hl.1 rfl (Nat.le_of_ble_eq_true rfl) dX6_whyNoLine_4 ⟨Nat.zero_le _, Nat.zero_le _⟩ rfl (fun H locs hw => ?_)
  refine lv_iconst (v := 1) hx hb dX6_whyNoLine_7 (by decide) ?_
  refine lv_icmp_ne (tgt := 13) hx hb dX6_whyNoLine_8 (by decide) (fun hc => ?_) (fun hc => ?_)
  · have hf := iteF hf hc
    refine lv_aload_n hx hb dX6_whyNoLine_13 rfl (lv_at hl 0 rfl) ?_
    refine lv_iload_n hx hb dX6_whyNoLine_14 rfl (lv_at hl 1 rfl) ?_
    obtain ⟨r2, hr2, hf⟩ := bndS hf
    refine q_callV (rest := []) (st1 := [.int r2]) [.int a1] ⟨hx, hb, hml, hown, hts⟩ (c_X6_standing hr2) (cwV 1 hts gX6_whyNoLine_X6_standing rfl rfl rfl (by decide +kernel) ⟨Nat.le_of_ble_eq_true rfl, Nat.le_of_ble_eq_true rfl⟩) hw ma_0 rfl rfl hl.1 rfl (Nat.le_of_ble_eq_true rfl) dX6_whyNoLine_15 ⟨Nat.zero_le _, Nat.zero_le _⟩ rfl (fun H locs hw => ?_)
    refine lv_iconst (v := (-1)) hx hb dX6_whyNoLine_18 (by decide) ?_
    refine lv_icmp_eq (tgt := 27) hx hb dX6_whyNoLine_19 (by decide) (fun hc => ?_) (fun hc => ?_)
    · have hf := iteT hf hc
      refine lv_aload_n hx hb dX6_whyNoLine_27 rfl (lv_at hl 0 rfl) ?_
      refine lv_iload_n hx hb dX6_whyNoLine_28 rfl (lv_at hl 1 rfl) ?_
      refine lv_iconst (v := 2) hx hb dX6_whyNoLine_29 (by decide) ?_
      obtain ⟨r3, hr3, hf⟩ := bndS hf
      refine q_callV (rest := []) (st1 := [.int r3]) [.int a1, .int 2] ⟨hx, hb, hml, hown, hts⟩ (c_X6_of hr3) (cwV 2 hts gX6_whyNoLine_X6_of rfl rfl rfl (by decide +kernel) ⟨Nat.le_of_ble_eq_true rfl, Nat.le_of_ble_eq_true rfl⟩) hw ma_0 rfl rfl hl.1 rfl (Nat.le_of_ble_eq_true rfl) dX6_whyNoLine_30 ⟨Nat.zero_le _, Nat.zero_le _⟩ rfl (fun H locs hw => ?_)
      refine lv_aload_n hx hb dX6_whyNoLine_33 rfl (lv_at hl 0 rfl) ?_
      refine q_get hx hb hts hiX6 hown hw 0 ma_0 rfl 1 (by decide) (hts (.fieldLink RX6 7 "LaceRanksModel" "s" "[I") (by decide +kernel)) rfl dX6_whyNoLine_34 ?_
      refine lv_bipush (v := 15) hx hb dX6_whyNoLine_37 (by decide) ?_
      obtain ⟨hg, hf⟩ := gdE hf
      obtain ⟨v4, hv4, hf⟩ := nmE hf
      refine q_iald hx hb hw 1 ma_1 (inb_in hg) dX6_whyNoLine_39 ?_
      refine q_is hv4 ?_
      refine lv_icmp_le (tgt := 48) hx hb dX6_whyNoLine_40 (by decide) (fun hc => ?_) (fun hc => ?_)
      · have hf := iteT hf hc
        refine lv_iconst (v := 0) hx hb dX6_whyNoLine_48 (by decide) ?_
        cases hf
        exact q_iret hx hb hr hlocks hw dX6_whyNoLine_49
      · have hf := iteF hf hc
        refine lv_bipush (v := 7) hx hb dX6_whyNoLine_43 (by decide) ?_
        refine lv_goto (tgt := 49) hx hb dX6_whyNoLine_45 (by decide) ?_
        cases hf
        exact q_iret hx hb hr hlocks hw dX6_whyNoLine_49
    · have hf := iteF hf hc
      refine lv_bipush (v := 6) hx hb dX6_whyNoLine_22 (by decide) ?_
      refine lv_goto (tgt := 49) hx hb dX6_whyNoLine_24 (by decide) ?_
      cases hf
      exact q_iret hx hb hr hlocks hw dX6_whyNoLine_49
  · have hf := iteT hf hc
    refine lv_iconst (v := 5) hx hb dX6_whyNoLine_11 (by decide) ?_
    cases hf
    exact q_iret hx hb hr hlocks hw dX6_whyNoLine_12

def f_X6_queues (M : MS)  (a1 : Int32) (a2 : Int32) : Option (Int32 × MS) := nm (86 + (11 * a2)) (fun v1 => gd (inb v1 952) (nm (M.1 0 v1.toNatClampNeg) (fun v2 => gd (inb v1 952) (nm (upM M 0 (upd (M.1 0) v1.toNatClampNeg (v2 + 1))) (fun M3 => gd (inb v1 952) (nm (M3.1 0 v1.toNatClampNeg) (fun v4 => gd (inb (v1 + v4) 952) (nm (upM M3 0 (upd (M3.1 0) (v1 + v4).toNatClampNeg a1)) (fun M5 => gd (inb v1 952) (nm (M5.1 0 v1.toNatClampNeg) (fun v6 => some (v6 - 1, M5))))))))))))
set_option maxHeartbeats 4000000 in
set_option maxRecDepth 100000 in
theorem c_X6_queues {l : Launch} {D : va_G} {cI cR : ClassId} {ad : Nat → Nat} {A : Nat → Prop} {M : MS} {M' : MS} {a1 : Int32} {a2 : Int32} {r : Int32}  (hf : f_X6_queues M a1 a2 = some (r, M')) : MC l yX6_queues wsX6_queues 0 0 D cI cR A [.ref (ad 0), .int a1, .int a2] (mws cI ad M) (some (.int r)) (mws cI ad M') := by
  refine Met.ofW (cc := cX6_queues) (maxL := 4) (ret := (some .int)) (by decide) rfl ?_
  intro p e s m args below meth c s₁ B hml hv
  obtain ⟨rfl, hw⟩ := q_start hv
  have hx := B.exec
  have hb := B.bytes
  have hr := B.returns
  have hts := atoms_spec (ws := wsX6_queues) B.pre
  have hown : s.vm.findClass RX6 = some m.cls := findClass_of_methodNamed B.named
  have hlocks := B.notSynchronized
  have hiX6 : ∀ w ∈ wsX60, w ∈ wsX6_queues := by decide +kernel
  have hl := lv_entry ([.ref (ad 0), .int a1, .int a2]) (n := 4) (Nat.le_of_ble_eq_true rfl)
  rw [lg_entry_eq]
  generalize (lg_sl ([.ref (ad 0), .int a1, .int a2]) ++ List.replicate (4 - (lg_sl ([.ref (ad 0), .int a1, .int a2])).length) Slot.unset).toArray = ls at hl ⊢
  have hl : lv_has ls 4 [(0, .ref (ad 0)), (1, .int a1), (2, .int a2)] := hl
  unfold f_X6_queues at hf
  obtain ⟨H, eH⟩ : ∃ H, H = s.heap := ⟨_, rfl⟩
  obtain ⟨locs, eL⟩ : ∃ L : List Loc, L = [] := ⟨_, rfl⟩
  rw [← eH, ← eL] at hw ⊢
  clear eH eL
  refine lv_bipush (v := 86) hx hb dX6_queues_0 (by decide) ?_
  refine lv_bipush (v := 11) hx hb dX6_queues_2 (by decide) ?_
  refine lv_iload_n hx hb dX6_queues_4 rfl (lv_at hl 2 rfl) ?_
  refine lv_imul hx hb dX6_queues_5 ?_
  refine lv_iadd hx hb dX6_queues_6 ?_
  obtain ⟨v1, hv1, hf⟩ := nmE hf
  refine q_is hv1 ?_
  refine lv_istore_n (lv' := [(3, .int v1), (0, .ref (ad 0)), (1, .int a1), (2, .int a2)]) hx hb dX6_queues_7 rfl hl (by decide) rfl (fun ls hl => ?_)
  refine lv_aload_n hx hb dX6_queues_8 rfl (lv_at hl 1 rfl) ?_
  refine q_get hx hb hts hiX6 hown hw 0 ma_0 rfl 1 (by decide) (hts (.fieldLink RX6 7 "LaceRanksModel" "s" "[I") (by decide +kernel)) rfl dX6_queues_9 ?_
  refine lv_iload_n hx hb dX6_queues_12 rfl (lv_at hl 0 rfl) ?_
  refine lv_dup2_11 hx hb dX6_queues_13 rfl rfl ?_
  obtain ⟨hg, hf⟩ := gdE hf
  obtain ⟨v2, hv2, hf⟩ := nmE hf
  refine q_iald hx hb hw 1 ma_1 (inb_in hg) dX6_queues_14 ?_
  refine q_is hv2 ?_
  refine lv_iconst (v := 1) hx hb dX6_queues_15 (by decide) ?_
  refine lv_iadd hx hb dX6_queues_16 ?_
  obtain ⟨hg, hf⟩ := gdE hf
  obtain ⟨M3, hM3, hf⟩ := nmE hf
  refine q_iast hx hb hw 1 ma_1 (inb_in hg) dX6_queues_17 (ms_1.trans (congrArg (fun z => (mws cI ad z)) hM3.symm)) (fun H locs hw => ?_)
  refine lv_aload_n hx hb dX6_queues_18 rfl (lv_at hl 1 rfl) ?_
  refine q_get hx hb hts hiX6 hown hw 0 ma_0 rfl 1 (by decide) (hts (.fieldLink RX6 7 "LaceRanksModel" "s" "[I") (by decide +kernel)) rfl dX6_queues_19 ?_
  refine lv_iload_n hx hb dX6_queues_22 rfl (lv_at hl 0 rfl) ?_
  refine lv_aload_n hx hb dX6_queues_23 rfl (lv_at hl 1 rfl) ?_
  refine q_get hx hb hts hiX6 hown hw 0 ma_0 rfl 1 (by decide) (hts (.fieldLink RX6 7 "LaceRanksModel" "s" "[I") (by decide +kernel)) rfl dX6_queues_24 ?_
  refine lv_iload_n hx hb dX6_queues_27 rfl (lv_at hl 0 rfl) ?_
  obtain ⟨hg, hf⟩ := gdE hf
  obtain ⟨v4, hv4, hf⟩ := nmE hf
  refine q_iald hx hb hw 1 ma_1 (inb_in hg) dX6_queues_28 ?_
  refine q_is hv4 ?_
  refine lv_iadd hx hb dX6_queues_29 ?_
  refine lv_iload_n hx hb dX6_queues_30 rfl (lv_at hl 2 rfl) ?_
  obtain ⟨hg, hf⟩ := gdE hf
  obtain ⟨M5, hM5, hf⟩ := nmE hf
  refine q_iast hx hb hw 1 ma_1 (inb_in hg) dX6_queues_31 (ms_1.trans (congrArg (fun z => (mws cI ad z)) hM5.symm)) (fun H locs hw => ?_)
  refine lv_aload_n hx hb dX6_queues_32 rfl (lv_at hl 1 rfl) ?_
  refine q_get hx hb hts hiX6 hown hw 0 ma_0 rfl 1 (by decide) (hts (.fieldLink RX6 7 "LaceRanksModel" "s" "[I") (by decide +kernel)) rfl dX6_queues_33 ?_
  refine lv_iload_n hx hb dX6_queues_36 rfl (lv_at hl 0 rfl) ?_
  obtain ⟨hg, hf⟩ := gdE hf
  obtain ⟨v6, hv6, hf⟩ := nmE hf
  refine q_iald hx hb hw 1 ma_1 (inb_in hg) dX6_queues_37 ?_
  refine q_is hv6 ?_
  refine lv_iconst (v := 1) hx hb dX6_queues_38 (by decide) ?_
  refine lv_isub hx hb dX6_queues_39 ?_
  cases hf
  exact q_iret hx hb hr hlocks hw dX6_queues_40

def f_X6_whyNoMask (M : MS)  (a1 : Int32) : Option Int32 := bnd (f_X6_of M a1 5) (fun r1 => (if r1 ≤ 0 then bnd (f_X6_of M a1 1) (fun r2 => (if 3 ≤ r2 then some 0 else some 9)) else some 8))
set_option maxHeartbeats 4000000 in
set_option maxRecDepth 100000 in
theorem c_X6_whyNoMask {l : Launch} {D : va_G} {cI cR : ClassId} {ad : Nat → Nat} {A : Nat → Prop} {M : MS}  {a1 : Int32} {r : Int32}  (hf : f_X6_whyNoMask M a1 = some r) : MC l yX6_whyNoMask wsX6_whyNoMask 1 22 D cI cR A [.ref (ad 0), .int a1] (mws cI ad M) (some (.int r)) (mws cI ad M) := by
  refine Met.ofW (cc := cX6_whyNoMask) (maxL := 2) (ret := (some .int)) (by decide) rfl ?_
  intro p e s m args below meth c s₁ B hml hv
  obtain ⟨rfl, hw⟩ := q_start hv
  have hx := B.exec
  have hb := B.bytes
  have hr := B.returns
  have hts := atoms_spec (ws := wsX6_whyNoMask) B.pre
  have hown : s.vm.findClass RX6 = some m.cls := findClass_of_methodNamed B.named
  have hlocks := B.notSynchronized
  have hl := lv_entry ([.ref (ad 0), .int a1]) (n := 2) (Nat.le_of_ble_eq_true rfl)
  rw [lg_entry_eq]
  generalize (lg_sl ([.ref (ad 0), .int a1]) ++ List.replicate (2 - (lg_sl ([.ref (ad 0), .int a1])).length) Slot.unset).toArray = ls at hl ⊢
  have hl : lv_has ls 2 [(0, .ref (ad 0)), (1, .int a1)] := hl
  unfold f_X6_whyNoMask at hf
  obtain ⟨H, eH⟩ : ∃ H, H = s.heap := ⟨_, rfl⟩
  obtain ⟨locs, eL⟩ : ∃ L : List Loc, L = [] := ⟨_, rfl⟩
  rw [← eH, ← eL] at hw ⊢
  clear eH eL
  refine lv_aload_n hx hb dX6_whyNoMask_0 rfl (lv_at hl 0 rfl) ?_
  refine lv_iload_n hx hb dX6_whyNoMask_1 rfl (lv_at hl 1 rfl) ?_
  refine lv_iconst (v := 5) hx hb dX6_whyNoMask_2 (by decide) ?_
  obtain ⟨r1, hr1, hf⟩ := bndS hf
  refine q_callV (rest := []) (st1 := [.int r1]) [.int a1, .int 5] ⟨hx, hb, hml, hown, hts⟩ (c_X6_of hr1) (cwV 2 hts gX6_whyNoMask_X6_of rfl rfl rfl (by decide +kernel) ⟨Nat.le_of_ble_eq_true rfl, Nat.le_of_ble_eq_true rfl⟩) hw ma_0 rfl rfl hl.1 rfl (Nat.le_of_ble_eq_true rfl) dX6_whyNoMask_3 ⟨Nat.zero_le _, Nat.zero_le _⟩ rfl (fun H locs hw => ?_)
  refine lv_if_le (tgt := 14) hx hb dX6_whyNoMask_6 (by decide) (fun hc => ?_) (fun hc => ?_)
  · have hf := iteT hf hc
    refine lv_aload_n hx hb dX6_whyNoMask_14 rfl (lv_at hl 0 rfl) ?_
    refine lv_iload_n hx hb dX6_whyNoMask_15 rfl (lv_at hl 1 rfl) ?_
    refine lv_iconst (v := 1) hx hb dX6_whyNoMask_16 (by decide) ?_
    obtain ⟨r2, hr2, hf⟩ := bndS hf
    refine q_callV (rest := []) (st1 := [.int r2]) [.int a1, .int 1] ⟨hx, hb, hml, hown, hts⟩ (c_X6_of hr2) (cwV 2 hts gX6_whyNoMask_X6_of rfl rfl rfl (by decide +kernel) ⟨Nat.le_of_ble_eq_true rfl, Nat.le_of_ble_eq_true rfl⟩) hw ma_0 rfl rfl hl.1 rfl (Nat.le_of_ble_eq_true rfl) dX6_whyNoMask_17 ⟨Nat.zero_le _, Nat.zero_le _⟩ rfl (fun H locs hw => ?_)
    refine lv_iconst (v := 3) hx hb dX6_whyNoMask_20 (by decide) ?_
    refine lv_icmp_ge (tgt := 29) hx hb dX6_whyNoMask_21 (by decide) (fun hc => ?_) (fun hc => ?_)
    · have hf := iteT hf hc
      refine lv_iconst (v := 0) hx hb dX6_whyNoMask_29 (by decide) ?_
      cases hf
      exact q_iret hx hb hr hlocks hw dX6_whyNoMask_30
    · have hf := iteF hf hc
      refine lv_bipush (v := 9) hx hb dX6_whyNoMask_24 (by decide) ?_
      refine lv_goto (tgt := 30) hx hb dX6_whyNoMask_26 (by decide) ?_
      cases hf
      exact q_iret hx hb hr hlocks hw dX6_whyNoMask_30
  · have hf := iteF hf hc
    refine lv_bipush (v := 8) hx hb dX6_whyNoMask_9 (by decide) ?_
    refine lv_goto (tgt := 30) hx hb dX6_whyNoMask_11 (by decide) ?_
    cases hf
    exact q_iret hx hb hr hlocks hw dX6_whyNoMask_30

def f_X6_paysToChest (M : MS)  (a1 : Int32) (a2 : Int32) : Option MS := bnd (f_X6_of M a1 1) (fun r1 => bnd (f_X6_lay M a1 1 (r1 - a2)) (fun M2 => gd (inb 2 952) (nm (M2.1 0 (2 : Int32).toNatClampNeg) (fun v3 => gd (inb 2 952) (nm (upM M2 0 (upd (M2.1 0) (2 : Int32).toNatClampNeg (v3 + a2))) (fun M4 => some M4))))))
set_option maxHeartbeats 4000000 in
set_option maxRecDepth 100000 in
theorem c_X6_paysToChest {l : Launch} {D : va_G} {cI cR : ClassId} {ad : Nat → Nat} {A : Nat → Prop} {M : MS} {M' : MS} {a1 : Int32} {a2 : Int32}   (hf : f_X6_paysToChest M a1 a2 = some M') : MC l yX6_paysToChest wsX6_paysToChest 1 23 D cI cR A [.ref (ad 0), .int a1, .int a2] (mws cI ad M) none (mws cI ad M') := by
  refine Met.ofW (cc := cX6_paysToChest) (maxL := 3) (ret := none) (by decide) rfl ?_
  intro p e s m args below meth c s₁ B hml hv
  obtain ⟨rfl, hw⟩ := q_start hv
  have hx := B.exec
  have hb := B.bytes
  have hr := B.returns
  have hts := atoms_spec (ws := wsX6_paysToChest) B.pre
  have hown : s.vm.findClass RX6 = some m.cls := findClass_of_methodNamed B.named
  have hlocks := B.notSynchronized
  have hiX6 : ∀ w ∈ wsX60, w ∈ wsX6_paysToChest := by decide +kernel
  have hl := lv_entry ([.ref (ad 0), .int a1, .int a2]) (n := 3) (Nat.le_of_ble_eq_true rfl)
  rw [lg_entry_eq]
  generalize (lg_sl ([.ref (ad 0), .int a1, .int a2]) ++ List.replicate (3 - (lg_sl ([.ref (ad 0), .int a1, .int a2])).length) Slot.unset).toArray = ls at hl ⊢
  have hl : lv_has ls 3 [(0, .ref (ad 0)), (1, .int a1), (2, .int a2)] := hl
  unfold f_X6_paysToChest at hf
  obtain ⟨H, eH⟩ : ∃ H, H = s.heap := ⟨_, rfl⟩
  obtain ⟨locs, eL⟩ : ∃ L : List Loc, L = [] := ⟨_, rfl⟩
  rw [← eH, ← eL] at hw ⊢
  clear eH eL
  refine lv_aload_n hx hb dX6_paysToChest_0 rfl (lv_at hl 0 rfl) ?_
  refine lv_iload_n hx hb dX6_paysToChest_1 rfl (lv_at hl 1 rfl) ?_
  refine lv_iconst (v := 1) hx hb dX6_paysToChest_2 (by decide) ?_
  refine lv_aload_n hx hb dX6_paysToChest_3 rfl (lv_at hl 0 rfl) ?_
  refine lv_iload_n hx hb dX6_paysToChest_4 rfl (lv_at hl 1 rfl) ?_
  refine lv_iconst (v := 1) hx hb dX6_paysToChest_5 (by decide) ?_
  obtain ⟨r1, hr1, hf⟩ := bndS hf
  refine q_callV (rest := [.int 1, .int a1, .ref (ad 0)]) (st1 := [.int r1, .int 1, .int a1, .ref (ad 0)]) [.int a1, .int 1] ⟨hx, hb, hml, hown, hts⟩ (c_X6_of hr1) (cwV 2 hts gX6_paysToChest_X6_of rfl rfl rfl (by decide +kernel) ⟨Nat.le_of_ble_eq_true rfl, Nat.le_of_ble_eq_true rfl⟩) hw ma_0 rfl rfl hl.1 rfl (Nat.le_of_ble_eq_true rfl) dX6_paysToChest_6 ⟨Nat.zero_le _, Nat.zero_le _⟩ rfl (fun H locs hw => ?_)
  refine lv_iload_n hx hb dX6_paysToChest_9 rfl (lv_at hl 2 rfl) ?_
  refine lv_isub hx hb dX6_paysToChest_10 ?_
  obtain ⟨M2, hr2, hf⟩ := bndS hf
  refine q_callV (rest := []) (st1 := []) [.int a1, .int 1, .int (r1 - a2)] ⟨hx, hb, hml, hown, hts⟩ (c_X6_lay hr2) (cwV 3 hts gX6_paysToChest_X6_lay rfl rfl rfl (by decide +kernel) ⟨Nat.le_of_ble_eq_true rfl, Nat.le_of_ble_eq_true rfl⟩) hw ma_0 rfl rfl hl.1 rfl (Nat.le_of_ble_eq_true rfl) dX6_paysToChest_11 ⟨Nat.zero_le _, Nat.zero_le _⟩ rfl (fun H locs hw => ?_)
  refine lv_aload_n hx hb dX6_paysToChest_14 rfl (lv_at hl 0 rfl) ?_
  refine q_get hx hb hts hiX6 hown hw 0 ma_0 rfl 1 (by decide) (hts (.fieldLink RX6 7 "LaceRanksModel" "s" "[I") (by decide +kernel)) rfl dX6_paysToChest_15 ?_
  refine lv_iconst (v := 2) hx hb dX6_paysToChest_18 (by decide) ?_
  refine lv_dup2_11 hx hb dX6_paysToChest_19 rfl rfl ?_
  obtain ⟨hg, hf⟩ := gdE hf
  obtain ⟨v3, hv3, hf⟩ := nmE hf
  refine q_iald hx hb hw 1 ma_1 (inb_in hg) dX6_paysToChest_20 ?_
  refine q_is hv3 ?_
  refine lv_iload_n hx hb dX6_paysToChest_21 rfl (lv_at hl 2 rfl) ?_
  refine lv_iadd hx hb dX6_paysToChest_22 ?_
  obtain ⟨hg, hf⟩ := gdE hf
  obtain ⟨M4, hM4, hf⟩ := nmE hf
  refine q_iast hx hb hw 1 ma_1 (inb_in hg) dX6_paysToChest_23 (ms_1.trans (congrArg (fun z => (mws cI ad z)) hM4.symm)) (fun H locs hw => ?_)
  cases hf
  exact q_vret hx hb hr hlocks hw dX6_paysToChest_24

def f_X6_masks (M : MS)  (a1 : Int32) : Option (Int32 × MS) := bnd (f_X6_paysToChest M a1 3) (fun M1 => gd (inb 14 952) (nm (M1.1 0 (14 : Int32).toNatClampNeg) (fun v2 => bnd (f_X6_lay M1 a1 5 v2) (fun M3 => bnd (f_X6_of M3 a1 1) (fun r4 => some (r4, M3))))))
set_option maxHeartbeats 4000000 in
set_option maxRecDepth 100000 in
theorem c_X6_masks {l : Launch} {D : va_G} {cI cR : ClassId} {ad : Nat → Nat} {A : Nat → Prop} {M : MS} {M' : MS} {a1 : Int32} {r : Int32}  (hf : f_X6_masks M a1 = some (r, M')) : MC l yX6_masks wsX6_masks 2 45 D cI cR A [.ref (ad 0), .int a1] (mws cI ad M) (some (.int r)) (mws cI ad M') := by
  refine Met.ofW (cc := cX6_masks) (maxL := 2) (ret := (some .int)) (by decide) rfl ?_
  intro p e s m args below meth c s₁ B hml hv
  obtain ⟨rfl, hw⟩ := q_start hv
  have hx := B.exec
  have hb := B.bytes
  have hr := B.returns
  have hts := atoms_spec (ws := wsX6_masks) B.pre
  have hown : s.vm.findClass RX6 = some m.cls := findClass_of_methodNamed B.named
  have hlocks := B.notSynchronized
  have hiX6 : ∀ w ∈ wsX60, w ∈ wsX6_masks := by decide +kernel
  have hl := lv_entry ([.ref (ad 0), .int a1]) (n := 2) (Nat.le_of_ble_eq_true rfl)
  rw [lg_entry_eq]
  generalize (lg_sl ([.ref (ad 0), .int a1]) ++ List.replicate (2 - (lg_sl ([.ref (ad 0), .int a1])).length) Slot.unset).toArray = ls at hl ⊢
  have hl : lv_has ls 2 [(0, .ref (ad 0)), (1, .int a1)] := hl
  unfold f_X6_masks at hf
  obtain ⟨H, eH⟩ : ∃ H, H = s.heap := ⟨_, rfl⟩
  obtain ⟨locs, eL⟩ : ∃ L : List Loc, L = [] := ⟨_, rfl⟩
  rw [← eH, ← eL] at hw ⊢
  clear eH eL
  refine lv_aload_n hx hb dX6_masks_0 rfl (lv_at hl 0 rfl) ?_
  refine lv_iload_n hx hb dX6_masks_1 rfl (lv_at hl 1 rfl) ?_
  refine lv_iconst (v := 3) hx hb dX6_masks_2 (by decide) ?_
  obtain ⟨M1, hr1, hf⟩ := bndS hf
  refine q_callV (rest := []) (st1 := []) [.int a1, .int 3] ⟨hx, hb, hml, hown, hts⟩ (c_X6_paysToChest hr1) (cwV 2 hts gX6_masks_X6_paysToChest rfl rfl rfl (by decide +kernel) ⟨Nat.le_of_ble_eq_true rfl, Nat.le_of_ble_eq_true rfl⟩) hw ma_0 rfl rfl hl.1 rfl (Nat.le_of_ble_eq_true rfl) dX6_masks_3 ⟨Nat.zero_le _, Nat.zero_le _⟩ rfl (fun H locs hw => ?_)
  refine lv_aload_n hx hb dX6_masks_6 rfl (lv_at hl 0 rfl) ?_
  refine lv_iload_n hx hb dX6_masks_7 rfl (lv_at hl 1 rfl) ?_
  refine lv_iconst (v := 5) hx hb dX6_masks_8 (by decide) ?_
  refine lv_aload_n hx hb dX6_masks_9 rfl (lv_at hl 0 rfl) ?_
  refine q_get hx hb hts hiX6 hown hw 0 ma_0 rfl 1 (by decide) (hts (.fieldLink RX6 7 "LaceRanksModel" "s" "[I") (by decide +kernel)) rfl dX6_masks_10 ?_
  refine lv_bipush (v := 14) hx hb dX6_masks_13 (by decide) ?_
  obtain ⟨hg, hf⟩ := gdE hf
  obtain ⟨v2, hv2, hf⟩ := nmE hf
  refine q_iald hx hb hw 1 ma_1 (inb_in hg) dX6_masks_15 ?_
  refine q_is hv2 ?_
  obtain ⟨M3, hr3, hf⟩ := bndS hf
  refine q_callV (rest := []) (st1 := []) [.int a1, .int 5, .int v2] ⟨hx, hb, hml, hown, hts⟩ (c_X6_lay hr3) (cwV 3 hts gX6_masks_X6_lay rfl rfl rfl (by decide +kernel) ⟨Nat.le_of_ble_eq_true rfl, Nat.le_of_ble_eq_true rfl⟩) hw ma_0 rfl rfl hl.1 rfl (Nat.le_of_ble_eq_true rfl) dX6_masks_16 ⟨Nat.zero_le _, Nat.zero_le _⟩ rfl (fun H locs hw => ?_)
  refine lv_aload_n hx hb dX6_masks_19 rfl (lv_at hl 0 rfl) ?_
  refine lv_iload_n hx hb dX6_masks_20 rfl (lv_at hl 1 rfl) ?_
  refine lv_iconst (v := 1) hx hb dX6_masks_21 (by decide) ?_
  obtain ⟨r4, hr4, hf⟩ := bndS hf
  refine q_callV (rest := []) (st1 := [.int r4]) [.int a1, .int 1] ⟨hx, hb, hml, hown, hts⟩ (c_X6_of hr4) (cwV 2 hts gX6_masks_X6_of rfl rfl rfl (by decide +kernel) ⟨Nat.le_of_ble_eq_true rfl, Nat.le_of_ble_eq_true rfl⟩) hw ma_0 rfl rfl hl.1 rfl (Nat.le_of_ble_eq_true rfl) dX6_masks_22 ⟨Nat.zero_le _, Nat.zero_le _⟩ rfl (fun H locs hw => ?_)
  cases hf
  exact q_iret hx hb hr hlocks hw dX6_masks_25

def f_X6_pays (M : MS)  (a1 : Int32) : Option (Int32 × MS) := bnd (f_X6_of M a1 1) (fun r1 => bnd (f_X6_of M a1 2) (fun r2 => bnd (f_X6_lesser r1 r2) (fun r3 => bnd (f_X6_paysToChest M a1 r3) (fun M4 => bnd (f_X6_of M4 a1 2) (fun r5 => bnd (f_X6_lay M4 a1 2 (r5 - r3)) (fun M6 => bnd (f_X6_of M6 a1 2) (fun r7 => some (r7, M6))))))))
set_option maxHeartbeats 4000000 in
set_option maxRecDepth 100000 in
theorem c_X6_pays {l : Launch} {D : va_G} {cI cR : ClassId} {ad : Nat → Nat} {A : Nat → Prop} {M : MS} {M' : MS} {a1 : Int32} {r : Int32}  (hf : f_X6_pays M a1 = some (r, M')) : MC l yX6_pays wsX6_pays 2 45 D cI cR A [.ref (ad 0), .int a1] (mws cI ad M) (some (.int r)) (mws cI ad M') := by
  refine Met.ofW (cc := cX6_pays) (maxL := 3) (ret := (some .int)) (by decide) rfl ?_
  intro p e s m args below meth c s₁ B hml hv
  obtain ⟨rfl, hw⟩ := q_start hv
  have hx := B.exec
  have hb := B.bytes
  have hr := B.returns
  have hts := atoms_spec (ws := wsX6_pays) B.pre
  have hown : s.vm.findClass RX6 = some m.cls := findClass_of_methodNamed B.named
  have hlocks := B.notSynchronized
  have hl := lv_entry ([.ref (ad 0), .int a1]) (n := 3) (Nat.le_of_ble_eq_true rfl)
  rw [lg_entry_eq]
  generalize (lg_sl ([.ref (ad 0), .int a1]) ++ List.replicate (3 - (lg_sl ([.ref (ad 0), .int a1])).length) Slot.unset).toArray = ls at hl ⊢
  have hl : lv_has ls 3 [(0, .ref (ad 0)), (1, .int a1)] := hl
  unfold f_X6_pays at hf
  obtain ⟨H, eH⟩ : ∃ H, H = s.heap := ⟨_, rfl⟩
  obtain ⟨locs, eL⟩ : ∃ L : List Loc, L = [] := ⟨_, rfl⟩
  rw [← eH, ← eL] at hw ⊢
  clear eH eL
  refine lv_aload_n hx hb dX6_pays_0 rfl (lv_at hl 0 rfl) ?_
  refine lv_iload_n hx hb dX6_pays_1 rfl (lv_at hl 1 rfl) ?_
  refine lv_iconst (v := 1) hx hb dX6_pays_2 (by decide) ?_
  obtain ⟨r1, hr1, hf⟩ := bndS hf
  refine q_callV (rest := []) (st1 := [.int r1]) [.int a1, .int 1] ⟨hx, hb, hml, hown, hts⟩ (c_X6_of hr1) (cwV 2 hts gX6_pays_X6_of rfl rfl rfl (by decide +kernel) ⟨Nat.le_of_ble_eq_true rfl, Nat.le_of_ble_eq_true rfl⟩) hw ma_0 rfl rfl hl.1 rfl (Nat.le_of_ble_eq_true rfl) dX6_pays_3 ⟨Nat.zero_le _, Nat.zero_le _⟩ rfl (fun H locs hw => ?_)
  refine lv_aload_n hx hb dX6_pays_6 rfl (lv_at hl 0 rfl) ?_
  refine lv_iload_n hx hb dX6_pays_7 rfl (lv_at hl 1 rfl) ?_
  refine lv_iconst (v := 2) hx hb dX6_pays_8 (by decide) ?_
  obtain ⟨r2, hr2, hf⟩ := bndS hf
  refine q_callV (rest := [.int r1]) (st1 := [.int r2, .int r1]) [.int a1, .int 2] ⟨hx, hb, hml, hown, hts⟩ (c_X6_of hr2) (cwV 2 hts gX6_pays_X6_of rfl rfl rfl (by decide +kernel) ⟨Nat.le_of_ble_eq_true rfl, Nat.le_of_ble_eq_true rfl⟩) hw ma_0 rfl rfl hl.1 rfl (Nat.le_of_ble_eq_true rfl) dX6_pays_9 ⟨Nat.zero_le _, Nat.zero_le _⟩ rfl (fun H locs hw => ?_)
  obtain ⟨r3, hr3, hf⟩ := bndS hf
  refine q_callS (rest := []) (st1 := [.int r3]) [.int r1, .int r2] ⟨hx, hb, hml, hown, hts⟩ (c_X6_lesser hr3) (va_cwS 2 hts gX6_pays_X6_lesser rfl rfl rfl (by decide +kernel) ⟨Nat.le_of_ble_eq_true rfl, Nat.le_of_ble_eq_true rfl⟩) hw rfl hl.1 rfl (Nat.le_of_ble_eq_true rfl) dX6_pays_12 ⟨Nat.zero_le _, Nat.zero_le _⟩ rfl (fun H locs hw => ?_)
  refine lv_istore_n (lv' := [(2, .int r3), (0, .ref (ad 0)), (1, .int a1)]) hx hb dX6_pays_15 rfl hl (by decide) rfl (fun ls hl => ?_)
  refine lv_aload_n hx hb dX6_pays_16 rfl (lv_at hl 1 rfl) ?_
  refine lv_iload_n hx hb dX6_pays_17 rfl (lv_at hl 2 rfl) ?_
  refine lv_iload_n hx hb dX6_pays_18 rfl (lv_at hl 0 rfl) ?_
  obtain ⟨M4, hr4, hf⟩ := bndS hf
  refine q_callV (rest := []) (st1 := []) [.int a1, .int r3] ⟨hx, hb, hml, hown, hts⟩ (c_X6_paysToChest hr4) (cwV 2 hts gX6_pays_X6_paysToChest rfl rfl rfl (by decide +kernel) ⟨Nat.le_of_ble_eq_true rfl, Nat.le_of_ble_eq_true rfl⟩) hw ma_0 rfl rfl hl.1 rfl (Nat.le_of_ble_eq_true rfl) dX6_pays_19 ⟨Nat.zero_le _, Nat.zero_le _⟩ rfl (fun H locs hw => ?_)
  refine lv_aload_n hx hb dX6_pays_22 rfl (lv_at hl 1 rfl) ?_
  refine lv_iload_n hx hb dX6_pays_23 rfl (lv_at hl 2 rfl) ?_
  refine lv_iconst (v := 2) hx hb dX6_pays_24 (by decide) ?_
  refine lv_aload_n hx hb dX6_pays_25 rfl (lv_at hl 1 rfl) ?_
  refine lv_iload_n hx hb dX6_pays_26 rfl (lv_at hl 2 rfl) ?_
  refine lv_iconst (v := 2) hx hb dX6_pays_27 (by decide) ?_
  obtain ⟨r5, hr5, hf⟩ := bndS hf
  refine q_callV (rest := [.int 2, .int a1, .ref (ad 0)]) (st1 := [.int r5, .int 2, .int a1, .ref (ad 0)]) [.int a1, .int 2] ⟨hx, hb, hml, hown, hts⟩ (c_X6_of hr5) (cwV 2 hts gX6_pays_X6_of rfl rfl rfl (by decide +kernel) ⟨Nat.le_of_ble_eq_true rfl, Nat.le_of_ble_eq_true rfl⟩) hw ma_0 rfl rfl hl.1 rfl (Nat.le_of_ble_eq_true rfl) dX6_pays_28 ⟨Nat.zero_le _, Nat.zero_le _⟩ rfl (fun H locs hw => ?_)
  refine lv_iload_n hx hb dX6_pays_31 rfl (lv_at hl 0 rfl) ?_
  refine lv_isub hx hb dX6_pays_32 ?_
  obtain ⟨M6, hr6, hf⟩ := bndS hf
  refine q_callV (rest := []) (st1 := []) [.int a1, .int 2, .int (r5 - r3)] ⟨hx, hb, hml, hown, hts⟩ (c_X6_lay hr6) (cwV 3 hts gX6_pays_X6_lay rfl rfl rfl (by decide +kernel) ⟨Nat.le_of_ble_eq_true rfl, Nat.le_of_ble_eq_true rfl⟩) hw ma_0 rfl rfl hl.1 rfl (Nat.le_of_ble_eq_true rfl) dX6_pays_33 ⟨Nat.zero_le _, Nat.zero_le _⟩ rfl (fun H locs hw => ?_)
  refine lv_aload_n hx hb dX6_pays_36 rfl (lv_at hl 1 rfl) ?_
  refine lv_iload_n hx hb dX6_pays_37 rfl (lv_at hl 2 rfl) ?_
  refine lv_iconst (v := 2) hx hb dX6_pays_38 (by decide) ?_
  obtain ⟨r7, hr7, hf⟩ := bndS hf
  refine q_callV (rest := []) (st1 := [.int r7]) [.int a1, .int 2] ⟨hx, hb, hml, hown, hts⟩ (c_X6_of hr7) (cwV 2 hts gX6_pays_X6_of rfl rfl rfl (by decide +kernel) ⟨Nat.le_of_ble_eq_true rfl, Nat.le_of_ble_eq_true rfl⟩) hw ma_0 rfl rfl hl.1 rfl (Nat.le_of_ble_eq_true rfl) dX6_pays_39 ⟨Nat.zero_le _, Nat.zero_le _⟩ rfl (fun H locs hw => ?_)
  cases hf
  exact q_iret hx hb hr hlocks hw dX6_pays_42

def f_X6_allowed (M : MS)  (a1 : Int32) (a2 : Int32) (a3 : Int32) : Option Int32 := gd (inb 10 952) (nm (M.1 0 (10 : Int32).toNatClampNeg) (fun v1 => gd (inb 11 952) (nm (M.1 0 (11 : Int32).toNatClampNeg) (fun v2 => nm (v1 + (v2 * a2)) (fun v3 => (if a1 = 1 then (if 2 ≤ v3 then some (v3 - 2) else some 0) else (if a1 = 0 then some v3 else gd (inb 12 952) (nm (M.1 0 (12 : Int32).toNatClampNeg) (fun v4 => some (v3 + ((a3 - a3 / 3 * 3) * v4)))))))))))
set_option maxHeartbeats 4000000 in
set_option maxRecDepth 100000 in
theorem c_X6_allowed {l : Launch} {D : va_G} {cI cR : ClassId} {ad : Nat → Nat} {A : Nat → Prop} {M : MS}  {a1 : Int32} {a2 : Int32} {a3 : Int32} {r : Int32}  (hf : f_X6_allowed M a1 a2 a3 = some r) : MC l yX6_allowed wsX6_allowed 0 0 D cI cR A [.ref (ad 0), .int a1, .int a2, .int a3] (mws cI ad M) (some (.int r)) (mws cI ad M) := by
  refine Met.ofW (cc := cX6_allowed) (maxL := 5) (ret := (some .int)) (by decide) rfl ?_
  intro p e s m args below meth c s₁ B hml hv
  obtain ⟨rfl, hw⟩ := q_start hv
  have hx := B.exec
  have hb := B.bytes
  have hr := B.returns
  have hts := atoms_spec (ws := wsX6_allowed) B.pre
  have hown : s.vm.findClass RX6 = some m.cls := findClass_of_methodNamed B.named
  have hlocks := B.notSynchronized
  have hiX6 : ∀ w ∈ wsX60, w ∈ wsX6_allowed := by decide +kernel
  have hl := lv_entry ([.ref (ad 0), .int a1, .int a2, .int a3]) (n := 5) (Nat.le_of_ble_eq_true rfl)
  rw [lg_entry_eq]
  generalize (lg_sl ([.ref (ad 0), .int a1, .int a2, .int a3]) ++ List.replicate (5 - (lg_sl ([.ref (ad 0), .int a1, .int a2, .int a3])).length) Slot.unset).toArray = ls at hl ⊢
  have hl : lv_has ls 5 [(0, .ref (ad 0)), (1, .int a1), (2, .int a2), (3, .int a3)] := hl
  unfold f_X6_allowed at hf
  obtain ⟨H, eH⟩ : ∃ H, H = s.heap := ⟨_, rfl⟩
  obtain ⟨locs, eL⟩ : ∃ L : List Loc, L = [] := ⟨_, rfl⟩
  rw [← eH, ← eL] at hw ⊢
  clear eH eL
  refine lv_aload_n hx hb dX6_allowed_0 rfl (lv_at hl 0 rfl) ?_
  refine q_get hx hb hts hiX6 hown hw 0 ma_0 rfl 1 (by decide) (hts (.fieldLink RX6 7 "LaceRanksModel" "s" "[I") (by decide +kernel)) rfl dX6_allowed_1 ?_
  refine lv_bipush (v := 10) hx hb dX6_allowed_4 (by decide) ?_
  obtain ⟨hg, hf⟩ := gdE hf
  obtain ⟨v1, hv1, hf⟩ := nmE hf
  refine q_iald hx hb hw 1 ma_1 (inb_in hg) dX6_allowed_6 ?_
  refine q_is hv1 ?_
  refine lv_aload_n hx hb dX6_allowed_7 rfl (lv_at hl 0 rfl) ?_
  refine q_get hx hb hts hiX6 hown hw 0 ma_0 rfl 1 (by decide) (hts (.fieldLink RX6 7 "LaceRanksModel" "s" "[I") (by decide +kernel)) rfl dX6_allowed_8 ?_
  refine lv_bipush (v := 11) hx hb dX6_allowed_11 (by decide) ?_
  obtain ⟨hg, hf⟩ := gdE hf
  obtain ⟨v2, hv2, hf⟩ := nmE hf
  refine q_iald hx hb hw 1 ma_1 (inb_in hg) dX6_allowed_13 ?_
  refine q_is hv2 ?_
  refine lv_iload_n hx hb dX6_allowed_14 rfl (lv_at hl 2 rfl) ?_
  refine lv_imul hx hb dX6_allowed_15 ?_
  refine lv_iadd hx hb dX6_allowed_16 ?_
  obtain ⟨v3, hv3, hf⟩ := nmE hf
  refine q_is hv3 ?_
  refine lv_istore (lv' := [(4, .int v3), (0, .ref (ad 0)), (1, .int a1), (2, .int a2), (3, .int a3)]) hx hb dX6_allowed_17 hl (by decide) rfl (fun ls hl => ?_)
  refine lv_iload_n hx hb dX6_allowed_19 rfl (lv_at hl 2 rfl) ?_
  refine lv_iconst (v := 1) hx hb dX6_allowed_20 (by decide) ?_
  refine lv_icmp_ne (tgt := 39) hx hb dX6_allowed_21 (by decide) (fun hc => ?_) (fun hc => ?_)
  · have hf := iteF hf hc
    refine lv_iload_n hx hb dX6_allowed_39 rfl (lv_at hl 2 rfl) ?_
    refine lv_if_ne (tgt := 48) hx hb dX6_allowed_40 (by decide) (fun hc => ?_) (fun hc => ?_)
    · have hf := iteF hf hc
      refine lv_iload hx hb dX6_allowed_48 (lv_at hl 0 rfl) ?_
      refine lv_iload_n hx hb dX6_allowed_50 rfl (lv_at hl 4 rfl) ?_
      refine lv_iconst (v := 3) hx hb dX6_allowed_51 (by decide) ?_
      refine lv_irem hx hb dX6_allowed_52 (by decide) ?_
      refine lv_aload_n hx hb dX6_allowed_53 rfl (lv_at hl 1 rfl) ?_
      refine q_get hx hb hts hiX6 hown hw 0 ma_0 rfl 1 (by decide) (hts (.fieldLink RX6 7 "LaceRanksModel" "s" "[I") (by decide +kernel)) rfl dX6_allowed_54 ?_
      refine lv_bipush (v := 12) hx hb dX6_allowed_57 (by decide) ?_
      obtain ⟨hg, hf⟩ := gdE hf
      obtain ⟨v4, hv4, hf⟩ := nmE hf
      refine q_iald hx hb hw 1 ma_1 (inb_in hg) dX6_allowed_59 ?_
      refine q_is hv4 ?_
      refine lv_imul hx hb dX6_allowed_60 ?_
      refine lv_iadd hx hb dX6_allowed_61 ?_
      cases hf
      exact q_iret hx hb hr hlocks hw dX6_allowed_62
    · have hf := iteT hf hc
      refine lv_iload hx hb dX6_allowed_43 (lv_at hl 0 rfl) ?_
      refine lv_goto (tgt := 62) hx hb dX6_allowed_45 (by decide) ?_
      cases hf
      exact q_iret hx hb hr hlocks hw dX6_allowed_62
  · have hf := iteT hf hc
    refine lv_iload hx hb dX6_allowed_24 (lv_at hl 0 rfl) ?_
    refine lv_iconst (v := 2) hx hb dX6_allowed_26 (by decide) ?_
    refine lv_icmp_ge (tgt := 34) hx hb dX6_allowed_27 (by decide) (fun hc => ?_) (fun hc => ?_)
    · have hf := iteT hf hc
      refine lv_iload hx hb dX6_allowed_34 (lv_at hl 0 rfl) ?_
      refine lv_iconst (v := 2) hx hb dX6_allowed_36 (by decide) ?_
      refine lv_isub hx hb dX6_allowed_37 ?_
      cases hf
      exact q_iret hx hb hr hlocks hw dX6_allowed_38
    · have hf := iteF hf hc
      refine lv_iconst (v := 0) hx hb dX6_allowed_30 (by decide) ?_
      refine lv_goto (tgt := 38) hx hb dX6_allowed_31 (by decide) ?_
      cases hf
      exact q_iret hx hb hr hlocks hw dX6_allowed_38

def f_X6_judges_b188    (M : MS) (x1 : Int32) (x10 : Int32) (x11 : Int32) (y0 : Int32) (y1 : Int32) : Option MS := gd (inb y1 5) (nm (upM M 2 (upd (M.1 2) y1.toNatClampNeg y0)) (fun M1 => bnd (f_X6_of M1 x1 2) (fun r2 => gd (inb 3 5) (nm (upM M1 2 (upd (M1.1 2) (3 : Int32).toNatClampNeg ((r2 + x10) - x11))) (fun M3 => gd (inb 4 5) (nm (upM M3 2 (upd (M3.1 2) (4 : Int32).toNatClampNeg x11)) (fun M4 => some M4)))))))
def f_X6_judges_b154    (M : MS) (x1 : Int32) (x5 : Int32) (x7 : Int32) (x8 : Int32) (x9 : Int32) (x10 : Int32) (y0 : Int32) : Option MS := gd (inb 0 5) (nm (upM M 2 (upd (M.1 2) (0 : Int32).toNatClampNeg x7)) (fun M1 => gd (inb 1 5) (nm (upM M1 2 (upd (M1.1 2) (1 : Int32).toNatClampNeg x8)) (fun M2 => (if x5 = 0 then f_X6_judges_b188 M2 x1 x10 y0 x9 2 else f_X6_judges_b188 M2 x1 x10 y0 1 2)))))
def f_X6_judges_b95    (M : MS) (x1 : Int32) (x3 : Int32) (x5 : Int32) (y0 : Int32) : Option MS := gd (inb 13 952) (nm (M.1 0 (13 : Int32).toNatClampNeg) (fun v1 => bnd (f_X6_lesser (v1 * y0) x3) (fun r2 => nm ((v1 * y0) - r2) (fun v3 => bnd (f_X6_isBorrowed M x1) (fun r4 => (if r4 = 0 then f_X6_judges_b154 M x1 x5 y0 (v1 * y0) r2 v3 0 else bnd (f_X6_of M x1 4) (fun r5 => bnd (f_X6_of M r5 1) (fun r6 => bnd (f_X6_lesser (v3 / 2) r6) (fun r7 => f_X6_judges_b154 M x1 x5 y0 (v1 * y0) r2 v3 r7)))))))))
def f_X6_judges_b94    (M : MS) (x1 : Int32) (x3 : Int32) (x5 : Int32) : Option MS := f_X6_judges_b95 M x1 x3 x5 0
def f_X6_judges_b47    (M : MS) (x1 : Int32) (x2 : Int32) (x3 : Int32) (x4 : Int32) (y0 : Int32) : Option MS := bnd (f_X6_worn M x1) (fun r1 => bnd (f_X6_of M x1 0) (fun r2 => gd (inb 0 952) (nm (M.1 0 (0 : Int32).toNatClampNeg) (fun v3 => bnd (f_X6_allowed M x2 r2 v3) (fun r4 => (if x4 = 0 then f_X6_judges_b94 M x1 x3 y0 else (if y0 = 0 then (if (r1 - r4) ≤ 0 then f_X6_judges_b94 M x1 x3 y0 else f_X6_judges_b95 M x1 x3 y0 (r1 - r4)) else f_X6_judges_b94 M x1 x3 y0)))))))
def f_X6_judges_b46    (M : MS) (x1 : Int32) (x2 : Int32) (x3 : Int32) (x4 : Int32) : Option MS := f_X6_judges_b47 M x1 x2 x3 x4 0
def f_X6_judges_b22    (M : MS) (x1 : Int32) (x2 : Int32) (x3 : Int32) (y0 : Int32) : Option MS := (if y0 = 0 then f_X6_judges_b46 M x1 x2 x3 y0 else bnd (f_X6_of M x1 5) (fun r1 => (if r1 ≤ 0 then f_X6_judges_b46 M x1 x2 x3 y0 else (if x3 ≤ 0 then f_X6_judges_b46 M x1 x2 x3 y0 else f_X6_judges_b47 M x1 x2 x3 y0 1))))
def f_X6_judges (M : MS)  (a1 : Int32) (a2 : Int32) : Option MS := bnd (f_X6_of M a1 1) (fun r1 => bnd (f_X6_of M a1 4) (fun r2 => (if r2 = (-1) then f_X6_judges_b22 M a1 a2 r1 0 else f_X6_judges_b22 M a1 a2 r1 1)))
set_option maxHeartbeats 4000000 in
set_option maxRecDepth 100000 in
theorem c_X6_judges {l : Launch} {D : va_G} {cI cR : ClassId} {ad : Nat → Nat} {A : Nat → Prop} {M : MS} {M' : MS} {a1 : Int32} {a2 : Int32}   (hf : f_X6_judges M a1 a2 = some M') : MC l yX6_judges wsX6_judges 2 44 D cI cR A [.ref (ad 0), .int a1, .int a2] (mws cI ad M) none (mws cI ad M') := by
  refine Met.ofW (cc := cX6_judges) (maxL := 12) (ret := none) (by decide) rfl ?_
  intro p e s m args below meth c s₁ B hml hv
  obtain ⟨rfl, hw⟩ := q_start hv
  have hx := B.exec
  have hb := B.bytes
  have hr := B.returns
  have hts := atoms_spec (ws := wsX6_judges) B.pre
  have hown : s.vm.findClass RX6 = some m.cls := findClass_of_methodNamed B.named
  have hlocks := B.notSynchronized
  have hiX6 : ∀ w ∈ wsX60, w ∈ wsX6_judges := by decide +kernel
  have hl := lv_entry ([.ref (ad 0), .int a1, .int a2]) (n := 12) (Nat.le_of_ble_eq_true rfl)
  rw [lg_entry_eq]
  generalize (lg_sl ([.ref (ad 0), .int a1, .int a2]) ++ List.replicate (12 - (lg_sl ([.ref (ad 0), .int a1, .int a2])).length) Slot.unset).toArray = ls at hl ⊢
  have hl : lv_has ls 12 [(0, .ref (ad 0)), (1, .int a1), (2, .int a2)] := hl
  unfold f_X6_judges at hf
  obtain ⟨H, eH⟩ : ∃ H, H = s.heap := ⟨_, rfl⟩
  obtain ⟨locs, eL⟩ : ∃ L : List Loc, L = [] := ⟨_, rfl⟩
  rw [← eH, ← eL] at hw ⊢
  clear eH eL
  have B188 : ∀ (M : MS) (x1 : Int32) (x10 : Int32) (x11 : Int32) (y0 : Int32) (y1 : Int32) (H : Heap) (locs : List Loc) (ls : Array Slot), f_X6_judges_b188 M x1 x10 x11 y0 y1 = some M' → WH D cI cR A (mws cI ad M) s H locs → lv_has ls 12 [(0, .ref (ad 0)), (1, .int x1), (10, .int x10), (11, .int x11)] → W p l e (headSpec wsX6_judges ({ frames := 2, cells := 0, slots := 0, locals := 44 })).room s m ([.ref (ad 0), .int a1, .int a2] : List Value).toArray below meth c H locs 0 0 (MQ below (QV none D A (mws cI ad M')) (([.ref (ad 0), .int a1, .int a2] : List Value)).toArray s 0 0 A) (F0 m 188 ls [.int y0, .int y1, .ref (ad 3)]) := by
    intro M x1 x10 x11 y0 y1 H locs ls hf hw hl
    unfold f_X6_judges_b188 at hf
    obtain ⟨hg, hf⟩ := gdE hf
    obtain ⟨M1, hM1, hf⟩ := nmE hf
    refine q_iast hx hb hw 3 ma_3 (inb_in hg) dX6_judges_188 (ms_3.trans (congrArg (fun z => (mws cI ad z)) hM1.symm)) (fun H locs hw => ?_)
    refine lv_aload_n hx hb dX6_judges_189 rfl (lv_at hl 0 rfl) ?_
    refine q_get hx hb hts hiX6 hown hw 0 ma_0 rfl 10 (by decide) (hts (.fieldLink RX6 16 "LaceRanksModel" "brings" "[I") (by decide +kernel)) rfl dX6_judges_190 ?_
    refine lv_iconst (v := 3) hx hb dX6_judges_193 (by decide) ?_
    refine lv_aload_n hx hb dX6_judges_194 rfl (lv_at hl 0 rfl) ?_
    refine lv_iload_n hx hb dX6_judges_195 rfl (lv_at hl 1 rfl) ?_
    refine lv_iconst (v := 2) hx hb dX6_judges_196 (by decide) ?_
    obtain ⟨r2, hr2, hf⟩ := bndS hf
    refine q_callV (rest := [.int 3, .ref (ad 3)]) (st1 := [.int r2, .int 3, .ref (ad 3)]) [.int x1, .int 2] ⟨hx, hb, hml, hown, hts⟩ (c_X6_of hr2) (cwV 2 hts gX6_judges_X6_of rfl rfl rfl (by decide +kernel) ⟨Nat.le_of_ble_eq_true rfl, Nat.le_of_ble_eq_true rfl⟩) hw ma_0 rfl rfl hl.1 rfl (Nat.le_of_ble_eq_true rfl) dX6_judges_197 ⟨Nat.zero_le _, Nat.zero_le _⟩ rfl (fun H locs hw => ?_)
    refine lv_iload hx hb dX6_judges_200 (lv_at hl 2 rfl) ?_
    refine lv_iadd hx hb dX6_judges_202 ?_
    refine lv_iload hx hb dX6_judges_203 (lv_at hl 3 rfl) ?_
    refine lv_isub hx hb dX6_judges_205 ?_
    obtain ⟨hg, hf⟩ := gdE hf
    obtain ⟨M3, hM3, hf⟩ := nmE hf
    refine q_iast hx hb hw 3 ma_3 (inb_in hg) dX6_judges_206 (ms_3.trans (congrArg (fun z => (mws cI ad z)) hM3.symm)) (fun H locs hw => ?_)
    refine lv_aload_n hx hb dX6_judges_207 rfl (lv_at hl 0 rfl) ?_
    refine q_get hx hb hts hiX6 hown hw 0 ma_0 rfl 10 (by decide) (hts (.fieldLink RX6 16 "LaceRanksModel" "brings" "[I") (by decide +kernel)) rfl dX6_judges_208 ?_
    refine lv_iconst (v := 4) hx hb dX6_judges_211 (by decide) ?_
    refine lv_iload hx hb dX6_judges_212 (lv_at hl 3 rfl) ?_
    obtain ⟨hg, hf⟩ := gdE hf
    obtain ⟨M4, hM4, hf⟩ := nmE hf
    refine q_iast hx hb hw 3 ma_3 (inb_in hg) dX6_judges_214 (ms_3.trans (congrArg (fun z => (mws cI ad z)) hM4.symm)) (fun H locs hw => ?_)
    cases hf
    exact q_vret hx hb hr hlocks hw dX6_judges_215
  have B154 : ∀ (M : MS) (x1 : Int32) (x5 : Int32) (x7 : Int32) (x8 : Int32) (x9 : Int32) (x10 : Int32) (y0 : Int32) (H : Heap) (locs : List Loc) (ls : Array Slot), f_X6_judges_b154 M x1 x5 x7 x8 x9 x10 y0 = some M' → WH D cI cR A (mws cI ad M) s H locs → lv_has ls 12 [(0, .ref (ad 0)), (1, .int x1), (5, .int x5), (7, .int x7), (8, .int x8), (9, .int x9), (10, .int x10)] → W p l e (headSpec wsX6_judges ({ frames := 2, cells := 0, slots := 0, locals := 44 })).room s m ([.ref (ad 0), .int a1, .int a2] : List Value).toArray below meth c H locs 0 0 (MQ below (QV none D A (mws cI ad M')) (([.ref (ad 0), .int a1, .int a2] : List Value)).toArray s 0 0 A) (F0 m 154 ls [.int y0]) := by
    intro M x1 x5 x7 x8 x9 x10 y0 H locs ls hf hw hl
    unfold f_X6_judges_b154 at hf
    refine lv_istore (lv' := [(11, .int y0), (0, .ref (ad 0)), (1, .int x1), (5, .int x5), (7, .int x7), (8, .int x8), (9, .int x9), (10, .int x10)]) hx hb dX6_judges_154 hl (by decide) rfl (fun ls hl => ?_)
    refine lv_aload_n hx hb dX6_judges_156 rfl (lv_at hl 1 rfl) ?_
    refine q_get hx hb hts hiX6 hown hw 0 ma_0 rfl 10 (by decide) (hts (.fieldLink RX6 16 "LaceRanksModel" "brings" "[I") (by decide +kernel)) rfl dX6_judges_157 ?_
    refine lv_iconst (v := 0) hx hb dX6_judges_160 (by decide) ?_
    refine lv_iload hx hb dX6_judges_161 (lv_at hl 4 rfl) ?_
    obtain ⟨hg, hf⟩ := gdE hf
    obtain ⟨M1, hM1, hf⟩ := nmE hf
    refine q_iast hx hb hw 3 ma_3 (inb_in hg) dX6_judges_163 (ms_3.trans (congrArg (fun z => (mws cI ad z)) hM1.symm)) (fun H locs hw => ?_)
    refine lv_aload_n hx hb dX6_judges_164 rfl (lv_at hl 1 rfl) ?_
    refine q_get hx hb hts hiX6 hown hw 0 ma_0 rfl 10 (by decide) (hts (.fieldLink RX6 16 "LaceRanksModel" "brings" "[I") (by decide +kernel)) rfl dX6_judges_165 ?_
    refine lv_iconst (v := 1) hx hb dX6_judges_168 (by decide) ?_
    refine lv_iload hx hb dX6_judges_169 (lv_at hl 5 rfl) ?_
    obtain ⟨hg, hf⟩ := gdE hf
    obtain ⟨M2, hM2, hf⟩ := nmE hf
    refine q_iast hx hb hw 3 ma_3 (inb_in hg) dX6_judges_171 (ms_3.trans (congrArg (fun z => (mws cI ad z)) hM2.symm)) (fun H locs hw => ?_)
    refine lv_aload_n hx hb dX6_judges_172 rfl (lv_at hl 1 rfl) ?_
    refine q_get hx hb hts hiX6 hown hw 0 ma_0 rfl 10 (by decide) (hts (.fieldLink RX6 16 "LaceRanksModel" "brings" "[I") (by decide +kernel)) rfl dX6_judges_173 ?_
    refine lv_iconst (v := 2) hx hb dX6_judges_176 (by decide) ?_
    refine lv_iload hx hb dX6_judges_177 (lv_at hl 3 rfl) ?_
    refine lv_if_eq (tgt := 186) hx hb dX6_judges_179 (by decide) (fun hc => ?_) (fun hc => ?_)
    · have hf := iteT hf hc
      refine lv_iload hx hb dX6_judges_186 (lv_at hl 6 rfl) ?_
      exact B188 M2 x1 x10 y0 x9 2 H locs ls hf hw (lv_sub hl [1, 2, 7, 0] rfl)
    · have hf := iteF hf hc
      refine lv_iconst (v := 1) hx hb dX6_judges_182 (by decide) ?_
      refine lv_goto (tgt := 188) hx hb dX6_judges_183 (by decide) ?_
      exact B188 M2 x1 x10 y0 1 2 H locs ls hf hw (lv_sub hl [1, 2, 7, 0] rfl)
  have B95 : ∀ (M : MS) (x1 : Int32) (x3 : Int32) (x5 : Int32) (y0 : Int32) (H : Heap) (locs : List Loc) (ls : Array Slot), f_X6_judges_b95 M x1 x3 x5 y0 = some M' → WH D cI cR A (mws cI ad M) s H locs → lv_has ls 12 [(0, .ref (ad 0)), (1, .int x1), (3, .int x3), (5, .int x5)] → W p l e (headSpec wsX6_judges ({ frames := 2, cells := 0, slots := 0, locals := 44 })).room s m ([.ref (ad 0), .int a1, .int a2] : List Value).toArray below meth c H locs 0 0 (MQ below (QV none D A (mws cI ad M')) (([.ref (ad 0), .int a1, .int a2] : List Value)).toArray s 0 0 A) (F0 m 95 ls [.int y0]) := by
    intro M x1 x3 x5 y0 H locs ls hf hw hl
    unfold f_X6_judges_b95 at hf
    refine lv_istore (lv' := [(7, .int y0), (0, .ref (ad 0)), (1, .int x1), (3, .int x3), (5, .int x5)]) hx hb dX6_judges_95 hl (by decide) rfl (fun ls hl => ?_)
    refine lv_aload_n hx hb dX6_judges_97 rfl (lv_at hl 1 rfl) ?_
    refine q_get hx hb hts hiX6 hown hw 0 ma_0 rfl 1 (by decide) (hts (.fieldLink RX6 7 "LaceRanksModel" "s" "[I") (by decide +kernel)) rfl dX6_judges_98 ?_
    refine lv_bipush (v := 13) hx hb dX6_judges_101 (by decide) ?_
    obtain ⟨hg, hf⟩ := gdE hf
    obtain ⟨v1, hv1, hf⟩ := nmE hf
    refine q_iald hx hb hw 1 ma_1 (inb_in hg) dX6_judges_103 ?_
    refine q_is hv1 ?_
    refine lv_iload hx hb dX6_judges_104 (lv_at hl 0 rfl) ?_
    refine lv_imul hx hb dX6_judges_106 ?_
    refine lv_istore (lv' := [(8, .int (v1 * y0)), (7, .int y0), (0, .ref (ad 0)), (1, .int x1), (3, .int x3), (5, .int x5)]) hx hb dX6_judges_107 hl (by decide) rfl (fun ls hl => ?_)
    refine lv_iload hx hb dX6_judges_109 (lv_at hl 0 rfl) ?_
    refine lv_iload_n hx hb dX6_judges_111 rfl (lv_at hl 4 rfl) ?_
    obtain ⟨r2, hr2, hf⟩ := bndS hf
    refine q_callS (rest := []) (st1 := [.int r2]) [.int (v1 * y0), .int x3] ⟨hx, hb, hml, hown, hts⟩ (c_X6_lesser hr2) (va_cwS 2 hts gX6_judges_X6_lesser rfl rfl rfl (by decide +kernel) ⟨Nat.le_of_ble_eq_true rfl, Nat.le_of_ble_eq_true rfl⟩) hw rfl hl.1 rfl (Nat.le_of_ble_eq_true rfl) dX6_judges_112 ⟨Nat.zero_le _, Nat.zero_le _⟩ rfl (fun H locs hw => ?_)
    refine lv_istore (lv' := [(9, .int r2), (8, .int (v1 * y0)), (7, .int y0), (0, .ref (ad 0)), (1, .int x1), (3, .int x3), (5, .int x5)]) hx hb dX6_judges_115 hl (by decide) rfl (fun ls hl => ?_)
    refine lv_iload hx hb dX6_judges_117 (lv_at hl 1 rfl) ?_
    refine lv_iload hx hb dX6_judges_119 (lv_at hl 0 rfl) ?_
    refine lv_isub hx hb dX6_judges_121 ?_
    obtain ⟨v3, hv3, hf⟩ := nmE hf
    refine q_is hv3 ?_
    refine lv_istore (lv' := [(10, .int v3), (9, .int r2), (8, .int (v1 * y0)), (7, .int y0), (0, .ref (ad 0)), (1, .int x1), (3, .int x3), (5, .int x5)]) hx hb dX6_judges_122 hl (by decide) rfl (fun ls hl => ?_)
    refine lv_aload_n hx hb dX6_judges_124 rfl (lv_at hl 4 rfl) ?_
    refine lv_iload_n hx hb dX6_judges_125 rfl (lv_at hl 5 rfl) ?_
    obtain ⟨r4, hr4, hf⟩ := bndS hf
    refine q_callV (rest := []) (st1 := [.int r4]) [.int x1] ⟨hx, hb, hml, hown, hts⟩ (c_X6_isBorrowed hr4) (cwV 1 hts gX6_judges_X6_isBorrowed rfl rfl rfl (by decide +kernel) ⟨Nat.le_of_ble_eq_true rfl, Nat.le_of_ble_eq_true rfl⟩) hw ma_0 rfl rfl hl.1 rfl (Nat.le_of_ble_eq_true rfl) dX6_judges_126 ⟨Nat.zero_le _, Nat.zero_le _⟩ rfl (fun H locs hw => ?_)
    refine lv_if_eq (tgt := 153) hx hb dX6_judges_129 (by decide) (fun hc => ?_) (fun hc => ?_)
    · have hf := iteT hf hc
      refine lv_iconst (v := 0) hx hb dX6_judges_153 (by decide) ?_
      exact B154 M x1 x5 y0 (v1 * y0) r2 v3 0 H locs ls hf hw (lv_sub hl [4, 5, 7, 3, 2, 1, 0] rfl)
    · have hf := iteF hf hc
      refine lv_iload hx hb dX6_judges_132 (lv_at hl 0 rfl) ?_
      refine lv_iconst (v := 2) hx hb dX6_judges_134 (by decide) ?_
      refine lv_idiv hx hb dX6_judges_135 (by decide) ?_
      refine lv_aload_n hx hb dX6_judges_136 rfl (lv_at hl 4 rfl) ?_
      refine lv_aload_n hx hb dX6_judges_137 rfl (lv_at hl 4 rfl) ?_
      refine lv_iload_n hx hb dX6_judges_138 rfl (lv_at hl 5 rfl) ?_
      refine lv_iconst (v := 4) hx hb dX6_judges_139 (by decide) ?_
      obtain ⟨r5, hr5, hf⟩ := bndS hf
      refine q_callV (rest := [.ref (ad 0), .int (v3 / 2)]) (st1 := [.int r5, .ref (ad 0), .int (v3 / 2)]) [.int x1, .int 4] ⟨hx, hb, hml, hown, hts⟩ (c_X6_of hr5) (cwV 2 hts gX6_judges_X6_of rfl rfl rfl (by decide +kernel) ⟨Nat.le_of_ble_eq_true rfl, Nat.le_of_ble_eq_true rfl⟩) hw ma_0 rfl rfl hl.1 rfl (Nat.le_of_ble_eq_true rfl) dX6_judges_140 ⟨Nat.zero_le _, Nat.zero_le _⟩ rfl (fun H locs hw => ?_)
      refine lv_iconst (v := 1) hx hb dX6_judges_143 (by decide) ?_
      obtain ⟨r6, hr6, hf⟩ := bndS hf
      refine q_callV (rest := [.int (v3 / 2)]) (st1 := [.int r6, .int (v3 / 2)]) [.int r5, .int 1] ⟨hx, hb, hml, hown, hts⟩ (c_X6_of hr6) (cwV 2 hts gX6_judges_X6_of rfl rfl rfl (by decide +kernel) ⟨Nat.le_of_ble_eq_true rfl, Nat.le_of_ble_eq_true rfl⟩) hw ma_0 rfl rfl hl.1 rfl (Nat.le_of_ble_eq_true rfl) dX6_judges_144 ⟨Nat.zero_le _, Nat.zero_le _⟩ rfl (fun H locs hw => ?_)
      obtain ⟨r7, hr7, hf⟩ := bndS hf
      refine q_callS (rest := []) (st1 := [.int r7]) [.int (v3 / 2), .int r6] ⟨hx, hb, hml, hown, hts⟩ (c_X6_lesser hr7) (va_cwS 2 hts gX6_judges_X6_lesser rfl rfl rfl (by decide +kernel) ⟨Nat.le_of_ble_eq_true rfl, Nat.le_of_ble_eq_true rfl⟩) hw rfl hl.1 rfl (Nat.le_of_ble_eq_true rfl) dX6_judges_147 ⟨Nat.zero_le _, Nat.zero_le _⟩ rfl (fun H locs hw => ?_)
      refine lv_goto (tgt := 154) hx hb dX6_judges_150 (by decide) ?_
      exact B154 M x1 x5 y0 (v1 * y0) r2 v3 r7 H locs ls hf hw (lv_sub hl [4, 5, 7, 3, 2, 1, 0] rfl)
  have B94 : ∀ (M : MS) (x1 : Int32) (x3 : Int32) (x5 : Int32) (H : Heap) (locs : List Loc) (ls : Array Slot), f_X6_judges_b94 M x1 x3 x5 = some M' → WH D cI cR A (mws cI ad M) s H locs → lv_has ls 12 [(0, .ref (ad 0)), (1, .int x1), (3, .int x3), (5, .int x5)] → W p l e (headSpec wsX6_judges ({ frames := 2, cells := 0, slots := 0, locals := 44 })).room s m ([.ref (ad 0), .int a1, .int a2] : List Value).toArray below meth c H locs 0 0 (MQ below (QV none D A (mws cI ad M')) (([.ref (ad 0), .int a1, .int a2] : List Value)).toArray s 0 0 A) (F0 m 94 ls []) := by
    intro M x1 x3 x5 H locs ls hf hw hl
    unfold f_X6_judges_b94 at hf
    refine lv_iconst (v := 0) hx hb dX6_judges_94 (by decide) ?_
    exact B95 M x1 x3 x5 0 H locs ls hf hw (lv_sub hl [0, 1, 2, 3] rfl)
  have B47 : ∀ (M : MS) (x1 : Int32) (x2 : Int32) (x3 : Int32) (x4 : Int32) (y0 : Int32) (H : Heap) (locs : List Loc) (ls : Array Slot), f_X6_judges_b47 M x1 x2 x3 x4 y0 = some M' → WH D cI cR A (mws cI ad M) s H locs → lv_has ls 12 [(0, .ref (ad 0)), (1, .int x1), (2, .int x2), (3, .int x3), (4, .int x4)] → W p l e (headSpec wsX6_judges ({ frames := 2, cells := 0, slots := 0, locals := 44 })).room s m ([.ref (ad 0), .int a1, .int a2] : List Value).toArray below meth c H locs 0 0 (MQ below (QV none D A (mws cI ad M')) (([.ref (ad 0), .int a1, .int a2] : List Value)).toArray s 0 0 A) (F0 m 47 ls [.int y0]) := by
    intro M x1 x2 x3 x4 y0 H locs ls hf hw hl
    unfold f_X6_judges_b47 at hf
    refine lv_istore (lv' := [(5, .int y0), (0, .ref (ad 0)), (1, .int x1), (2, .int x2), (3, .int x3), (4, .int x4)]) hx hb dX6_judges_47 hl (by decide) rfl (fun ls hl => ?_)
    refine lv_aload_n hx hb dX6_judges_49 rfl (lv_at hl 1 rfl) ?_
    refine lv_iload_n hx hb dX6_judges_50 rfl (lv_at hl 2 rfl) ?_
    obtain ⟨r1, hr1, hf⟩ := bndS hf
    refine q_callV (rest := []) (st1 := [.int r1]) [.int x1] ⟨hx, hb, hml, hown, hts⟩ (c_X6_worn hr1) (cwV 1 hts gX6_judges_X6_worn rfl rfl rfl (by decide +kernel) ⟨Nat.le_of_ble_eq_true rfl, Nat.le_of_ble_eq_true rfl⟩) hw ma_0 rfl rfl hl.1 rfl (Nat.le_of_ble_eq_true rfl) dX6_judges_51 ⟨Nat.zero_le _, Nat.zero_le _⟩ rfl (fun H locs hw => ?_)
    refine lv_aload_n hx hb dX6_judges_54 rfl (lv_at hl 1 rfl) ?_
    refine lv_iload_n hx hb dX6_judges_55 rfl (lv_at hl 3 rfl) ?_
    refine lv_aload_n hx hb dX6_judges_56 rfl (lv_at hl 1 rfl) ?_
    refine lv_iload_n hx hb dX6_judges_57 rfl (lv_at hl 2 rfl) ?_
    refine lv_iconst (v := 0) hx hb dX6_judges_58 (by decide) ?_
    obtain ⟨r2, hr2, hf⟩ := bndS hf
    refine q_callV (rest := [.int x2, .ref (ad 0), .int r1]) (st1 := [.int r2, .int x2, .ref (ad 0), .int r1]) [.int x1, .int 0] ⟨hx, hb, hml, hown, hts⟩ (c_X6_of hr2) (cwV 2 hts gX6_judges_X6_of rfl rfl rfl (by decide +kernel) ⟨Nat.le_of_ble_eq_true rfl, Nat.le_of_ble_eq_true rfl⟩) hw ma_0 rfl rfl hl.1 rfl (Nat.le_of_ble_eq_true rfl) dX6_judges_59 ⟨Nat.zero_le _, Nat.zero_le _⟩ rfl (fun H locs hw => ?_)
    refine lv_aload_n hx hb dX6_judges_62 rfl (lv_at hl 1 rfl) ?_
    refine q_get hx hb hts hiX6 hown hw 0 ma_0 rfl 1 (by decide) (hts (.fieldLink RX6 7 "LaceRanksModel" "s" "[I") (by decide +kernel)) rfl dX6_judges_63 ?_
    refine lv_iconst (v := 0) hx hb dX6_judges_66 (by decide) ?_
    obtain ⟨hg, hf⟩ := gdE hf
    obtain ⟨v3, hv3, hf⟩ := nmE hf
    refine q_iald hx hb hw 1 ma_1 (inb_in hg) dX6_judges_67 ?_
    refine q_is hv3 ?_
    obtain ⟨r4, hr4, hf⟩ := bndS hf
    refine q_callV (rest := [.int r1]) (st1 := [.int r4, .int r1]) [.int x2, .int r2, .int v3] ⟨hx, hb, hml, hown, hts⟩ (c_X6_allowed hr4) (cwV 3 hts gX6_judges_X6_allowed rfl rfl rfl (by decide +kernel) ⟨Nat.le_of_ble_eq_true rfl, Nat.le_of_ble_eq_true rfl⟩) hw ma_0 rfl rfl hl.1 rfl (Nat.le_of_ble_eq_true rfl) dX6_judges_68 ⟨Nat.zero_le _, Nat.zero_le _⟩ rfl (fun H locs hw => ?_)
    refine lv_isub hx hb dX6_judges_71 ?_
    refine lv_istore (lv' := [(6, .int (r1 - r4)), (5, .int y0), (0, .ref (ad 0)), (1, .int x1), (2, .int x2), (3, .int x3), (4, .int x4)]) hx hb dX6_judges_72 hl (by decide) rfl (fun ls hl => ?_)
    refine lv_iload hx hb dX6_judges_74 (lv_at hl 6 rfl) ?_
    refine lv_if_eq (tgt := 94) hx hb dX6_judges_76 (by decide) (fun hc => ?_) (fun hc => ?_)
    · have hf := iteT hf hc
      exact B94 M x1 x3 y0 H locs ls hf hw (lv_sub hl [2, 3, 5, 1] rfl)
    · have hf := iteF hf hc
      refine lv_iload hx hb dX6_judges_79 (lv_at hl 1 rfl) ?_
      refine lv_if_ne (tgt := 94) hx hb dX6_judges_81 (by decide) (fun hc => ?_) (fun hc => ?_)
      · have hf := iteF hf hc
        exact B94 M x1 x3 y0 H locs ls hf hw (lv_sub hl [2, 3, 5, 1] rfl)
      · have hf := iteT hf hc
        refine lv_iload hx hb dX6_judges_84 (lv_at hl 0 rfl) ?_
        refine lv_if_le (tgt := 94) hx hb dX6_judges_86 (by decide) (fun hc => ?_) (fun hc => ?_)
        · have hf := iteT hf hc
          exact B94 M x1 x3 y0 H locs ls hf hw (lv_sub hl [2, 3, 5, 1] rfl)
        · have hf := iteF hf hc
          refine lv_iload hx hb dX6_judges_89 (lv_at hl 0 rfl) ?_
          refine lv_goto (tgt := 95) hx hb dX6_judges_91 (by decide) ?_
          exact B95 M x1 x3 y0 (r1 - r4) H locs ls hf hw (lv_sub hl [2, 3, 5, 1] rfl)
  have B46 : ∀ (M : MS) (x1 : Int32) (x2 : Int32) (x3 : Int32) (x4 : Int32) (H : Heap) (locs : List Loc) (ls : Array Slot), f_X6_judges_b46 M x1 x2 x3 x4 = some M' → WH D cI cR A (mws cI ad M) s H locs → lv_has ls 12 [(0, .ref (ad 0)), (1, .int x1), (2, .int x2), (3, .int x3), (4, .int x4)] → W p l e (headSpec wsX6_judges ({ frames := 2, cells := 0, slots := 0, locals := 44 })).room s m ([.ref (ad 0), .int a1, .int a2] : List Value).toArray below meth c H locs 0 0 (MQ below (QV none D A (mws cI ad M')) (([.ref (ad 0), .int a1, .int a2] : List Value)).toArray s 0 0 A) (F0 m 46 ls []) := by
    intro M x1 x2 x3 x4 H locs ls hf hw hl
    unfold f_X6_judges_b46 at hf
    refine lv_iconst (v := 0) hx hb dX6_judges_46 (by decide) ?_
    exact B47 M x1 x2 x3 x4 0 H locs ls hf hw (lv_sub hl [0, 1, 2, 3, 4] rfl)
  have B22 : ∀ (M : MS) (x1 : Int32) (x2 : Int32) (x3 : Int32) (y0 : Int32) (H : Heap) (locs : List Loc) (ls : Array Slot), f_X6_judges_b22 M x1 x2 x3 y0 = some M' → WH D cI cR A (mws cI ad M) s H locs → lv_has ls 12 [(0, .ref (ad 0)), (1, .int x1), (2, .int x2), (3, .int x3)] → W p l e (headSpec wsX6_judges ({ frames := 2, cells := 0, slots := 0, locals := 44 })).room s m ([.ref (ad 0), .int a1, .int a2] : List Value).toArray below meth c H locs 0 0 (MQ below (QV none D A (mws cI ad M')) (([.ref (ad 0), .int a1, .int a2] : List Value)).toArray s 0 0 A) (F0 m 22 ls [.int y0]) := by
    intro M x1 x2 x3 y0 H locs ls hf hw hl
    unfold f_X6_judges_b22 at hf
    refine lv_istore (lv' := [(4, .int y0), (0, .ref (ad 0)), (1, .int x1), (2, .int x2), (3, .int x3)]) hx hb dX6_judges_22 hl (by decide) rfl (fun ls hl => ?_)
    refine lv_iload hx hb dX6_judges_24 (lv_at hl 0 rfl) ?_
    refine lv_if_eq (tgt := 46) hx hb dX6_judges_26 (by decide) (fun hc => ?_) (fun hc => ?_)
    · have hf := iteT hf hc
      exact B46 M x1 x2 x3 y0 H locs ls hf hw (lv_sub hl [1, 2, 3, 4, 0] rfl)
    · have hf := iteF hf hc
      refine lv_aload_n hx hb dX6_judges_29 rfl (lv_at hl 1 rfl) ?_
      refine lv_iload_n hx hb dX6_judges_30 rfl (lv_at hl 2 rfl) ?_
      refine lv_iconst (v := 5) hx hb dX6_judges_31 (by decide) ?_
      obtain ⟨r1, hr1, hf⟩ := bndS hf
      refine q_callV (rest := []) (st1 := [.int r1]) [.int x1, .int 5] ⟨hx, hb, hml, hown, hts⟩ (c_X6_of hr1) (cwV 2 hts gX6_judges_X6_of rfl rfl rfl (by decide +kernel) ⟨Nat.le_of_ble_eq_true rfl, Nat.le_of_ble_eq_true rfl⟩) hw ma_0 rfl rfl hl.1 rfl (Nat.le_of_ble_eq_true rfl) dX6_judges_32 ⟨Nat.zero_le _, Nat.zero_le _⟩ rfl (fun H locs hw => ?_)
      refine lv_if_le (tgt := 46) hx hb dX6_judges_35 (by decide) (fun hc => ?_) (fun hc => ?_)
      · have hf := iteT hf hc
        exact B46 M x1 x2 x3 y0 H locs ls hf hw (lv_sub hl [1, 2, 3, 4, 0] rfl)
      · have hf := iteF hf hc
        refine lv_iload_n hx hb dX6_judges_38 rfl (lv_at hl 4 rfl) ?_
        refine lv_if_le (tgt := 46) hx hb dX6_judges_39 (by decide) (fun hc => ?_) (fun hc => ?_)
        · have hf := iteT hf hc
          exact B46 M x1 x2 x3 y0 H locs ls hf hw (lv_sub hl [1, 2, 3, 4, 0] rfl)
        · have hf := iteF hf hc
          refine lv_iconst (v := 1) hx hb dX6_judges_42 (by decide) ?_
          refine lv_goto (tgt := 47) hx hb dX6_judges_43 (by decide) ?_
          exact B47 M x1 x2 x3 y0 1 H locs ls hf hw (lv_sub hl [1, 2, 3, 4, 0] rfl)
  refine lv_aload_n hx hb dX6_judges_0 rfl (lv_at hl 0 rfl) ?_
  refine lv_iload_n hx hb dX6_judges_1 rfl (lv_at hl 1 rfl) ?_
  refine lv_iconst (v := 1) hx hb dX6_judges_2 (by decide) ?_
  obtain ⟨r1, hr1, hf⟩ := bndS hf
  refine q_callV (rest := []) (st1 := [.int r1]) [.int a1, .int 1] ⟨hx, hb, hml, hown, hts⟩ (c_X6_of hr1) (cwV 2 hts gX6_judges_X6_of rfl rfl rfl (by decide +kernel) ⟨Nat.le_of_ble_eq_true rfl, Nat.le_of_ble_eq_true rfl⟩) hw ma_0 rfl rfl hl.1 rfl (Nat.le_of_ble_eq_true rfl) dX6_judges_3 ⟨Nat.zero_le _, Nat.zero_le _⟩ rfl (fun H locs hw => ?_)
  refine lv_istore_n (lv' := [(3, .int r1), (0, .ref (ad 0)), (1, .int a1), (2, .int a2)]) hx hb dX6_judges_6 rfl hl (by decide) rfl (fun ls hl => ?_)
  refine lv_aload_n hx hb dX6_judges_7 rfl (lv_at hl 1 rfl) ?_
  refine lv_iload_n hx hb dX6_judges_8 rfl (lv_at hl 2 rfl) ?_
  refine lv_iconst (v := 4) hx hb dX6_judges_9 (by decide) ?_
  obtain ⟨r2, hr2, hf⟩ := bndS hf
  refine q_callV (rest := []) (st1 := [.int r2]) [.int a1, .int 4] ⟨hx, hb, hml, hown, hts⟩ (c_X6_of hr2) (cwV 2 hts gX6_judges_X6_of rfl rfl rfl (by decide +kernel) ⟨Nat.le_of_ble_eq_true rfl, Nat.le_of_ble_eq_true rfl⟩) hw ma_0 rfl rfl hl.1 rfl (Nat.le_of_ble_eq_true rfl) dX6_judges_10 ⟨Nat.zero_le _, Nat.zero_le _⟩ rfl (fun H locs hw => ?_)
  refine lv_iconst (v := (-1)) hx hb dX6_judges_13 (by decide) ?_
  refine lv_icmp_eq (tgt := 21) hx hb dX6_judges_14 (by decide) (fun hc => ?_) (fun hc => ?_)
  · have hf := iteT hf hc
    refine lv_iconst (v := 0) hx hb dX6_judges_21 (by decide) ?_
    exact B22 M a1 a2 r1 0 H locs ls hf hw (lv_sub hl [1, 2, 3, 0] rfl)
  · have hf := iteF hf hc
    refine lv_iconst (v := 1) hx hb dX6_judges_17 (by decide) ?_
    refine lv_goto (tgt := 22) hx hb dX6_judges_18 (by decide) ?_
    exact B22 M a1 a2 r1 1 H locs ls hf hw (lv_sub hl [1, 2, 3, 0] rfl)

def f_X6_opens_b202    (M : MS) : Option (Int32 × MS) := gd (inb 0 5) (nm (M.1 2 (0 : Int32).toNatClampNeg) (fun v1 => some (v1, M)))
def f_X6_opens_b139    (M : MS) (x4 : Int32) : Option (Int32 × MS) := bnd (f_X6_of M x4 3) (fun r1 => gd (inb 0 5) (nm (M.1 2 (0 : Int32).toNatClampNeg) (fun v2 => bnd (f_X6_lay M x4 3 (r1 - v2)) (fun M3 => gd (inb 3 952) (nm (M3.1 0 (3 : Int32).toNatClampNeg) (fun v4 => gd (inb 0 5) (nm (M3.1 2 (0 : Int32).toNatClampNeg) (fun v5 => gd (inb 3 952) (nm (upM M3 0 (upd (M3.1 0) (3 : Int32).toNatClampNeg (v4 + v5))) (fun M6 => gd (inb 7 952) (nm (M6.1 0 (7 : Int32).toNatClampNeg) (fun v7 => gd (inb 0 5) (nm (M6.1 2 (0 : Int32).toNatClampNeg) (fun v8 => gd (inb 7 952) (nm (upM M6 0 (upd (M6.1 0) (7 : Int32).toNatClampNeg (v7 + v8))) (fun M9 => gd (inb 6 952) (nm (M9.1 0 (6 : Int32).toNatClampNeg) (fun v10 => gd (inb 6 952) (nm (upM M9 0 (upd (M9.1 0) (6 : Int32).toNatClampNeg (v10 + 1))) (fun M11 => f_X6_opens_b202 M11))))))))))))))))))))
def f_X6_opens_l30    : Nat → MS → Int32 → Int32 → Int32 → Int32 → Option (Int32 × MS)
  | 0, _, _, _, _, _ => none
  | n30 + 1, M, x1, x2, x3, x4 => gd (inb x2 952) (nm (M.1 0 x2.toNatClampNeg) (fun v1 => (if v1 < x4 then bnd (f_X6_judges M x3 x1) (fun M2 => gd (inb 2 5) (nm (M2.1 2 (2 : Int32).toNatClampNeg) (fun v3 => bnd (f_X6_paysToChest M2 x3 v3) (fun M4 => gd (inb 3 5) (nm (M4.1 2 (3 : Int32).toNatClampNeg) (fun v5 => bnd (f_X6_lay M4 x3 2 v5) (fun M6 => bnd (f_X6_lay M6 x3 6 1) (fun M7 => gd (inb 0 5) (nm (M7.1 2 (0 : Int32).toNatClampNeg) (fun v8 => (if v8 ≤ 0 then f_X6_opens_b202 M7 else bnd (f_X6_of M7 x3 4) (fun r9 => (if r9 = x3 then f_X6_opens_b139 M7 r9 else gd (inb 4 5) (nm (M7.1 2 (4 : Int32).toNatClampNeg) (fun v10 => bnd (f_X6_paysToChest M7 r9 v10) (fun M11 => f_X6_opens_b139 M11 r9)))))))))))))))) else gd (inb ((x2 + x4) + 1) 952) (nm (M.1 0 ((x2 + x4) + 1).toNatClampNeg) (fun v12 => gd (inb (x2 + x4) 952) (nm (upM M 0 (upd (M.1 0) (x2 + x4).toNatClampNeg v12)) (fun M13 => nm (x4 + 1) (fun v14 => (f_X6_opens_l30 n30) M13 x1 x2 x3 v14))))))))
def f_X6_opens (M : MS)  (a1 : Int32) : Option (Int32 × MS) := nm (86 + (11 * a1)) (fun v1 => gd (inb (v1 + 1) 952) (nm (M.1 0 (v1 + 1).toNatClampNeg) (fun v2 => gd (inb v1 952) (nm (M.1 0 v1.toNatClampNeg) (fun v3 => gd (inb v1 952) (nm (upM M 0 (upd (M.1 0) v1.toNatClampNeg (v3 - 1))) (fun M4 => f_X6_opens_l30 fuelN M4 a1 v1 v2 1)))))))
set_option maxHeartbeats 4000000 in
set_option maxRecDepth 100000 in
theorem c_X6_opens {l : Launch} {D : va_G} {cI cR : ClassId} {ad : Nat → Nat} {A : Nat → Prop} {M : MS} {M' : MS} {a1 : Int32} {r : Int32}  (hf : f_X6_opens M a1 = some (r, M')) : MC l yX6_opens wsX6_opens 3 75 D cI cR A [.ref (ad 0), .int a1] (mws cI ad M) (some (.int r)) (mws cI ad M') := by
  refine Met.ofW (cc := cX6_opens) (maxL := 5) (ret := (some .int)) (by decide) rfl ?_
  intro p e s m args below meth c s₁ B hml hv
  obtain ⟨rfl, hw⟩ := q_start hv
  have hx := B.exec
  have hb := B.bytes
  have hr := B.returns
  have hts := atoms_spec (ws := wsX6_opens) B.pre
  have hown : s.vm.findClass RX6 = some m.cls := findClass_of_methodNamed B.named
  have hlocks := B.notSynchronized
  have hiX6 : ∀ w ∈ wsX60, w ∈ wsX6_opens := by decide +kernel
  have hl := lv_entry ([.ref (ad 0), .int a1]) (n := 5) (Nat.le_of_ble_eq_true rfl)
  rw [lg_entry_eq]
  generalize (lg_sl ([.ref (ad 0), .int a1]) ++ List.replicate (5 - (lg_sl ([.ref (ad 0), .int a1])).length) Slot.unset).toArray = ls at hl ⊢
  have hl : lv_has ls 5 [(0, .ref (ad 0)), (1, .int a1)] := hl
  unfold f_X6_opens at hf
  obtain ⟨H, eH⟩ : ∃ H, H = s.heap := ⟨_, rfl⟩
  obtain ⟨locs, eL⟩ : ∃ L : List Loc, L = [] := ⟨_, rfl⟩
  rw [← eH, ← eL] at hw ⊢
  clear eH eL
  have B202 : ∀ (M : MS) (H : Heap) (locs : List Loc) (ls : Array Slot), f_X6_opens_b202 M = some (r, M') → WH D cI cR A (mws cI ad M) s H locs → lv_has ls 5 [(0, .ref (ad 0))] → W p l e (headSpec wsX6_opens ({ frames := 3, cells := 0, slots := 0, locals := 75 })).room s m ([.ref (ad 0), .int a1] : List Value).toArray below meth c H locs 0 0 (MQ below (QV (some (.int r)) D A (mws cI ad M')) (([.ref (ad 0), .int a1] : List Value)).toArray s 0 0 A) (F0 m 202 ls []) := by
    intro M H locs ls hf hw hl
    unfold f_X6_opens_b202 at hf
    refine lv_aload_n hx hb dX6_opens_202 rfl (lv_at hl 0 rfl) ?_
    refine q_get hx hb hts hiX6 hown hw 0 ma_0 rfl 10 (by decide) (hts (.fieldLink RX6 16 "LaceRanksModel" "brings" "[I") (by decide +kernel)) rfl dX6_opens_203 ?_
    refine lv_iconst (v := 0) hx hb dX6_opens_206 (by decide) ?_
    obtain ⟨hg, hf⟩ := gdE hf
    obtain ⟨v1, hv1, hf⟩ := nmE hf
    refine q_iald hx hb hw 3 ma_3 (inb_in hg) dX6_opens_207 ?_
    refine q_is hv1 ?_
    cases hf
    exact q_iret hx hb hr hlocks hw dX6_opens_208
  have B139 : ∀ (M : MS) (x4 : Int32) (H : Heap) (locs : List Loc) (ls : Array Slot), f_X6_opens_b139 M x4 = some (r, M') → WH D cI cR A (mws cI ad M) s H locs → lv_has ls 5 [(0, .ref (ad 0)), (4, .int x4)] → W p l e (headSpec wsX6_opens ({ frames := 3, cells := 0, slots := 0, locals := 75 })).room s m ([.ref (ad 0), .int a1] : List Value).toArray below meth c H locs 0 0 (MQ below (QV (some (.int r)) D A (mws cI ad M')) (([.ref (ad 0), .int a1] : List Value)).toArray s 0 0 A) (F0 m 139 ls []) := by
    intro M x4 H locs ls hf hw hl
    unfold f_X6_opens_b139 at hf
    refine lv_aload_n hx hb dX6_opens_139 rfl (lv_at hl 0 rfl) ?_
    refine lv_iload hx hb dX6_opens_140 (lv_at hl 1 rfl) ?_
    refine lv_iconst (v := 3) hx hb dX6_opens_142 (by decide) ?_
    refine lv_aload_n hx hb dX6_opens_143 rfl (lv_at hl 0 rfl) ?_
    refine lv_iload hx hb dX6_opens_144 (lv_at hl 1 rfl) ?_
    refine lv_iconst (v := 3) hx hb dX6_opens_146 (by decide) ?_
    obtain ⟨r1, hr1, hf⟩ := bndS hf
    refine q_callV (rest := [.int 3, .int x4, .ref (ad 0)]) (st1 := [.int r1, .int 3, .int x4, .ref (ad 0)]) [.int x4, .int 3] ⟨hx, hb, hml, hown, hts⟩ (c_X6_of hr1) (cwV 2 hts gX6_opens_X6_of rfl rfl rfl (by decide +kernel) ⟨Nat.le_of_ble_eq_true rfl, Nat.le_of_ble_eq_true rfl⟩) hw ma_0 rfl rfl hl.1 rfl (Nat.le_of_ble_eq_true rfl) dX6_opens_147 ⟨Nat.zero_le _, Nat.zero_le _⟩ rfl (fun H locs hw => ?_)
    refine lv_aload_n hx hb dX6_opens_150 rfl (lv_at hl 0 rfl) ?_
    refine q_get hx hb hts hiX6 hown hw 0 ma_0 rfl 10 (by decide) (hts (.fieldLink RX6 16 "LaceRanksModel" "brings" "[I") (by decide +kernel)) rfl dX6_opens_151 ?_
    refine lv_iconst (v := 0) hx hb dX6_opens_154 (by decide) ?_
    obtain ⟨hg, hf⟩ := gdE hf
    obtain ⟨v2, hv2, hf⟩ := nmE hf
    refine q_iald hx hb hw 3 ma_3 (inb_in hg) dX6_opens_155 ?_
    refine q_is hv2 ?_
    refine lv_isub hx hb dX6_opens_156 ?_
    obtain ⟨M3, hr3, hf⟩ := bndS hf
    refine q_callV (rest := []) (st1 := []) [.int x4, .int 3, .int (r1 - v2)] ⟨hx, hb, hml, hown, hts⟩ (c_X6_lay hr3) (cwV 3 hts gX6_opens_X6_lay rfl rfl rfl (by decide +kernel) ⟨Nat.le_of_ble_eq_true rfl, Nat.le_of_ble_eq_true rfl⟩) hw ma_0 rfl rfl hl.1 rfl (Nat.le_of_ble_eq_true rfl) dX6_opens_157 ⟨Nat.zero_le _, Nat.zero_le _⟩ rfl (fun H locs hw => ?_)
    refine lv_aload_n hx hb dX6_opens_160 rfl (lv_at hl 0 rfl) ?_
    refine q_get hx hb hts hiX6 hown hw 0 ma_0 rfl 1 (by decide) (hts (.fieldLink RX6 7 "LaceRanksModel" "s" "[I") (by decide +kernel)) rfl dX6_opens_161 ?_
    refine lv_iconst (v := 3) hx hb dX6_opens_164 (by decide) ?_
    refine lv_dup2_11 hx hb dX6_opens_165 rfl rfl ?_
    obtain ⟨hg, hf⟩ := gdE hf
    obtain ⟨v4, hv4, hf⟩ := nmE hf
    refine q_iald hx hb hw 1 ma_1 (inb_in hg) dX6_opens_166 ?_
    refine q_is hv4 ?_
    refine lv_aload_n hx hb dX6_opens_167 rfl (lv_at hl 0 rfl) ?_
    refine q_get hx hb hts hiX6 hown hw 0 ma_0 rfl 10 (by decide) (hts (.fieldLink RX6 16 "LaceRanksModel" "brings" "[I") (by decide +kernel)) rfl dX6_opens_168 ?_
    refine lv_iconst (v := 0) hx hb dX6_opens_171 (by decide) ?_
    obtain ⟨hg, hf⟩ := gdE hf
    obtain ⟨v5, hv5, hf⟩ := nmE hf
    refine q_iald hx hb hw 3 ma_3 (inb_in hg) dX6_opens_172 ?_
    refine q_is hv5 ?_
    refine lv_iadd hx hb dX6_opens_173 ?_
    obtain ⟨hg, hf⟩ := gdE hf
    obtain ⟨M6, hM6, hf⟩ := nmE hf
    refine q_iast hx hb hw 1 ma_1 (inb_in hg) dX6_opens_174 (ms_1.trans (congrArg (fun z => (mws cI ad z)) hM6.symm)) (fun H locs hw => ?_)
    refine lv_aload_n hx hb dX6_opens_175 rfl (lv_at hl 0 rfl) ?_
    refine q_get hx hb hts hiX6 hown hw 0 ma_0 rfl 1 (by decide) (hts (.fieldLink RX6 7 "LaceRanksModel" "s" "[I") (by decide +kernel)) rfl dX6_opens_176 ?_
    refine lv_bipush (v := 7) hx hb dX6_opens_179 (by decide) ?_
    refine lv_dup2_11 hx hb dX6_opens_181 rfl rfl ?_
    obtain ⟨hg, hf⟩ := gdE hf
    obtain ⟨v7, hv7, hf⟩ := nmE hf
    refine q_iald hx hb hw 1 ma_1 (inb_in hg) dX6_opens_182 ?_
    refine q_is hv7 ?_
    refine lv_aload_n hx hb dX6_opens_183 rfl (lv_at hl 0 rfl) ?_
    refine q_get hx hb hts hiX6 hown hw 0 ma_0 rfl 10 (by decide) (hts (.fieldLink RX6 16 "LaceRanksModel" "brings" "[I") (by decide +kernel)) rfl dX6_opens_184 ?_
    refine lv_iconst (v := 0) hx hb dX6_opens_187 (by decide) ?_
    obtain ⟨hg, hf⟩ := gdE hf
    obtain ⟨v8, hv8, hf⟩ := nmE hf
    refine q_iald hx hb hw 3 ma_3 (inb_in hg) dX6_opens_188 ?_
    refine q_is hv8 ?_
    refine lv_iadd hx hb dX6_opens_189 ?_
    obtain ⟨hg, hf⟩ := gdE hf
    obtain ⟨M9, hM9, hf⟩ := nmE hf
    refine q_iast hx hb hw 1 ma_1 (inb_in hg) dX6_opens_190 (ms_1.trans (congrArg (fun z => (mws cI ad z)) hM9.symm)) (fun H locs hw => ?_)
    refine lv_aload_n hx hb dX6_opens_191 rfl (lv_at hl 0 rfl) ?_
    refine q_get hx hb hts hiX6 hown hw 0 ma_0 rfl 1 (by decide) (hts (.fieldLink RX6 7 "LaceRanksModel" "s" "[I") (by decide +kernel)) rfl dX6_opens_192 ?_
    refine lv_bipush (v := 6) hx hb dX6_opens_195 (by decide) ?_
    refine lv_dup2_11 hx hb dX6_opens_197 rfl rfl ?_
    obtain ⟨hg, hf⟩ := gdE hf
    obtain ⟨v10, hv10, hf⟩ := nmE hf
    refine q_iald hx hb hw 1 ma_1 (inb_in hg) dX6_opens_198 ?_
    refine q_is hv10 ?_
    refine lv_iconst (v := 1) hx hb dX6_opens_199 (by decide) ?_
    refine lv_iadd hx hb dX6_opens_200 ?_
    obtain ⟨hg, hf⟩ := gdE hf
    obtain ⟨M11, hM11, hf⟩ := nmE hf
    refine q_iast hx hb hw 1 ma_1 (inb_in hg) dX6_opens_201 (ms_1.trans (congrArg (fun z => (mws cI ad z)) hM11.symm)) (fun H locs hw => ?_)
    exact B202 M11 H locs ls hf hw (lv_sub hl [0] rfl)
  have L30 : ∀ (n30 : Nat) (M : MS) (x1 : Int32) (x2 : Int32) (x3 : Int32) (x4 : Int32) (H : Heap) (locs : List Loc) (ls : Array Slot), f_X6_opens_l30 n30 M x1 x2 x3 x4 = some (r, M') → WH D cI cR A (mws cI ad M) s H locs → lv_has ls 5 [(0, .ref (ad 0)), (1, .int x1), (2, .int x2), (3, .int x3), (4, .int x4)] → W p l e (headSpec wsX6_opens ({ frames := 3, cells := 0, slots := 0, locals := 75 })).room s m ([.ref (ad 0), .int a1] : List Value).toArray below meth c H locs 0 0 (MQ below (QV (some (.int r)) D A (mws cI ad M')) (([.ref (ad 0), .int a1] : List Value)).toArray s 0 0 A) (F0 m 30 ls []) := by
    intro n30
    induction n30 with
    | zero => intro M x1 x2 x3 x4 H locs ls hf; cases hf
    | succ n30 ih =>
      have ih30 := ih
      intro M x1 x2 x3 x4 H locs ls hf hw hl
      simp only [f_X6_opens_l30] at hf
      refine lv_iload hx hb dX6_opens_30 (lv_at hl 4 rfl) ?_
      refine lv_aload_n hx hb dX6_opens_32 rfl (lv_at hl 0 rfl) ?_
      refine q_get hx hb hts hiX6 hown hw 0 ma_0 rfl 1 (by decide) (hts (.fieldLink RX6 7 "LaceRanksModel" "s" "[I") (by decide +kernel)) rfl dX6_opens_33 ?_
      refine lv_iload_n hx hb dX6_opens_36 rfl (lv_at hl 2 rfl) ?_
      obtain ⟨hg, hf⟩ := gdE hf
      obtain ⟨v1, hv1, hf⟩ := nmE hf
      refine q_iald hx hb hw 1 ma_1 (inb_in hg) dX6_opens_37 ?_
      refine q_is hv1 ?_
      refine lv_icmp_gt (tgt := 67) hx hb dX6_opens_38 (by decide) (fun hc => ?_) (fun hc => ?_)
      · have hf := iteT hf hc
        refine lv_aload_n hx hb dX6_opens_67 rfl (lv_at hl 0 rfl) ?_
        refine lv_iload_n hx hb dX6_opens_68 rfl (lv_at hl 3 rfl) ?_
        refine lv_iload_n hx hb dX6_opens_69 rfl (lv_at hl 1 rfl) ?_
        obtain ⟨M2, hr2, hf⟩ := bndS hf
        refine q_callV (rest := []) (st1 := []) [.int x3, .int x1] ⟨hx, hb, hml, hown, hts⟩ (c_X6_judges hr2) (cwV 2 hts gX6_opens_X6_judges rfl rfl rfl (by decide +kernel) ⟨Nat.le_of_ble_eq_true rfl, Nat.le_of_ble_eq_true rfl⟩) hw ma_0 rfl rfl hl.1 rfl (Nat.le_of_ble_eq_true rfl) dX6_opens_70 ⟨Nat.zero_le _, Nat.zero_le _⟩ rfl (fun H locs hw => ?_)
        refine lv_aload_n hx hb dX6_opens_73 rfl (lv_at hl 0 rfl) ?_
        refine lv_iload_n hx hb dX6_opens_74 rfl (lv_at hl 3 rfl) ?_
        refine lv_aload_n hx hb dX6_opens_75 rfl (lv_at hl 0 rfl) ?_
        refine q_get hx hb hts hiX6 hown hw 0 ma_0 rfl 10 (by decide) (hts (.fieldLink RX6 16 "LaceRanksModel" "brings" "[I") (by decide +kernel)) rfl dX6_opens_76 ?_
        refine lv_iconst (v := 2) hx hb dX6_opens_79 (by decide) ?_
        obtain ⟨hg, hf⟩ := gdE hf
        obtain ⟨v3, hv3, hf⟩ := nmE hf
        refine q_iald hx hb hw 3 ma_3 (inb_in hg) dX6_opens_80 ?_
        refine q_is hv3 ?_
        obtain ⟨M4, hr4, hf⟩ := bndS hf
        refine q_callV (rest := []) (st1 := []) [.int x3, .int v3] ⟨hx, hb, hml, hown, hts⟩ (c_X6_paysToChest hr4) (cwV 2 hts gX6_opens_X6_paysToChest rfl rfl rfl (by decide +kernel) ⟨Nat.le_of_ble_eq_true rfl, Nat.le_of_ble_eq_true rfl⟩) hw ma_0 rfl rfl hl.1 rfl (Nat.le_of_ble_eq_true rfl) dX6_opens_81 ⟨Nat.zero_le _, Nat.zero_le _⟩ rfl (fun H locs hw => ?_)
        refine lv_aload_n hx hb dX6_opens_84 rfl (lv_at hl 0 rfl) ?_
        refine lv_iload_n hx hb dX6_opens_85 rfl (lv_at hl 3 rfl) ?_
        refine lv_iconst (v := 2) hx hb dX6_opens_86 (by decide) ?_
        refine lv_aload_n hx hb dX6_opens_87 rfl (lv_at hl 0 rfl) ?_
        refine q_get hx hb hts hiX6 hown hw 0 ma_0 rfl 10 (by decide) (hts (.fieldLink RX6 16 "LaceRanksModel" "brings" "[I") (by decide +kernel)) rfl dX6_opens_88 ?_
        refine lv_iconst (v := 3) hx hb dX6_opens_91 (by decide) ?_
        obtain ⟨hg, hf⟩ := gdE hf
        obtain ⟨v5, hv5, hf⟩ := nmE hf
        refine q_iald hx hb hw 3 ma_3 (inb_in hg) dX6_opens_92 ?_
        refine q_is hv5 ?_
        obtain ⟨M6, hr6, hf⟩ := bndS hf
        refine q_callV (rest := []) (st1 := []) [.int x3, .int 2, .int v5] ⟨hx, hb, hml, hown, hts⟩ (c_X6_lay hr6) (cwV 3 hts gX6_opens_X6_lay rfl rfl rfl (by decide +kernel) ⟨Nat.le_of_ble_eq_true rfl, Nat.le_of_ble_eq_true rfl⟩) hw ma_0 rfl rfl hl.1 rfl (Nat.le_of_ble_eq_true rfl) dX6_opens_93 ⟨Nat.zero_le _, Nat.zero_le _⟩ rfl (fun H locs hw => ?_)
        refine lv_aload_n hx hb dX6_opens_96 rfl (lv_at hl 0 rfl) ?_
        refine lv_iload_n hx hb dX6_opens_97 rfl (lv_at hl 3 rfl) ?_
        refine lv_bipush (v := 6) hx hb dX6_opens_98 (by decide) ?_
        refine lv_iconst (v := 1) hx hb dX6_opens_100 (by decide) ?_
        obtain ⟨M7, hr7, hf⟩ := bndS hf
        refine q_callV (rest := []) (st1 := []) [.int x3, .int 6, .int 1] ⟨hx, hb, hml, hown, hts⟩ (c_X6_lay hr7) (cwV 3 hts gX6_opens_X6_lay rfl rfl rfl (by decide +kernel) ⟨Nat.le_of_ble_eq_true rfl, Nat.le_of_ble_eq_true rfl⟩) hw ma_0 rfl rfl hl.1 rfl (Nat.le_of_ble_eq_true rfl) dX6_opens_101 ⟨Nat.zero_le _, Nat.zero_le _⟩ rfl (fun H locs hw => ?_)
        refine lv_aload_n hx hb dX6_opens_104 rfl (lv_at hl 0 rfl) ?_
        refine q_get hx hb hts hiX6 hown hw 0 ma_0 rfl 10 (by decide) (hts (.fieldLink RX6 16 "LaceRanksModel" "brings" "[I") (by decide +kernel)) rfl dX6_opens_105 ?_
        refine lv_iconst (v := 0) hx hb dX6_opens_108 (by decide) ?_
        obtain ⟨hg, hf⟩ := gdE hf
        obtain ⟨v8, hv8, hf⟩ := nmE hf
        refine q_iald hx hb hw 3 ma_3 (inb_in hg) dX6_opens_109 ?_
        refine q_is hv8 ?_
        refine lv_if_le (tgt := 202) hx hb dX6_opens_110 (by decide) (fun hc => ?_) (fun hc => ?_)
        · have hf := iteT hf hc
          exact B202 M7 H locs ls hf hw (lv_sub hl [0] rfl)
        · have hf := iteF hf hc
          refine lv_aload_n hx hb dX6_opens_113 rfl (lv_at hl 0 rfl) ?_
          refine lv_iload_n hx hb dX6_opens_114 rfl (lv_at hl 3 rfl) ?_
          refine lv_iconst (v := 4) hx hb dX6_opens_115 (by decide) ?_
          obtain ⟨r9, hr9, hf⟩ := bndS hf
          refine q_callV (rest := []) (st1 := [.int r9]) [.int x3, .int 4] ⟨hx, hb, hml, hown, hts⟩ (c_X6_of hr9) (cwV 2 hts gX6_opens_X6_of rfl rfl rfl (by decide +kernel) ⟨Nat.le_of_ble_eq_true rfl, Nat.le_of_ble_eq_true rfl⟩) hw ma_0 rfl rfl hl.1 rfl (Nat.le_of_ble_eq_true rfl) dX6_opens_116 ⟨Nat.zero_le _, Nat.zero_le _⟩ rfl (fun H locs hw => ?_)
          refine lv_istore (lv' := [(4, .int r9), (0, .ref (ad 0)), (1, .int x1), (2, .int x2), (3, .int x3)]) hx hb dX6_opens_119 hl (by decide) rfl (fun ls hl => ?_)
          refine lv_iload hx hb dX6_opens_121 (lv_at hl 0 rfl) ?_
          refine lv_iload_n hx hb dX6_opens_123 rfl (lv_at hl 4 rfl) ?_
          refine lv_icmp_eq (tgt := 139) hx hb dX6_opens_124 (by decide) (fun hc => ?_) (fun hc => ?_)
          · have hf := iteT hf hc
            exact B139 M7 r9 H locs ls hf hw (lv_sub hl [1, 0] rfl)
          · have hf := iteF hf hc
            refine lv_aload_n hx hb dX6_opens_127 rfl (lv_at hl 1 rfl) ?_
            refine lv_iload hx hb dX6_opens_128 (lv_at hl 0 rfl) ?_
            refine lv_aload_n hx hb dX6_opens_130 rfl (lv_at hl 1 rfl) ?_
            refine q_get hx hb hts hiX6 hown hw 0 ma_0 rfl 10 (by decide) (hts (.fieldLink RX6 16 "LaceRanksModel" "brings" "[I") (by decide +kernel)) rfl dX6_opens_131 ?_
            refine lv_iconst (v := 4) hx hb dX6_opens_134 (by decide) ?_
            obtain ⟨hg, hf⟩ := gdE hf
            obtain ⟨v10, hv10, hf⟩ := nmE hf
            refine q_iald hx hb hw 3 ma_3 (inb_in hg) dX6_opens_135 ?_
            refine q_is hv10 ?_
            obtain ⟨M11, hr11, hf⟩ := bndS hf
            refine q_callV (rest := []) (st1 := []) [.int r9, .int v10] ⟨hx, hb, hml, hown, hts⟩ (c_X6_paysToChest hr11) (cwV 2 hts gX6_opens_X6_paysToChest rfl rfl rfl (by decide +kernel) ⟨Nat.le_of_ble_eq_true rfl, Nat.le_of_ble_eq_true rfl⟩) hw ma_0 rfl rfl hl.1 rfl (Nat.le_of_ble_eq_true rfl) dX6_opens_136 ⟨Nat.zero_le _, Nat.zero_le _⟩ rfl (fun H locs hw => ?_)
            exact B139 M11 r9 H locs ls hf hw (lv_sub hl [1, 0] rfl)
      · have hf := iteF hf hc
        refine lv_aload_n hx hb dX6_opens_41 rfl (lv_at hl 0 rfl) ?_
        refine q_get hx hb hts hiX6 hown hw 0 ma_0 rfl 1 (by decide) (hts (.fieldLink RX6 7 "LaceRanksModel" "s" "[I") (by decide +kernel)) rfl dX6_opens_42 ?_
        refine lv_iload_n hx hb dX6_opens_45 rfl (lv_at hl 2 rfl) ?_
        refine lv_iload hx hb dX6_opens_46 (lv_at hl 4 rfl) ?_
        refine lv_iadd hx hb dX6_opens_48 ?_
        refine lv_aload_n hx hb dX6_opens_49 rfl (lv_at hl 0 rfl) ?_
        refine q_get hx hb hts hiX6 hown hw 0 ma_0 rfl 1 (by decide) (hts (.fieldLink RX6 7 "LaceRanksModel" "s" "[I") (by decide +kernel)) rfl dX6_opens_50 ?_
        refine lv_iload_n hx hb dX6_opens_53 rfl (lv_at hl 2 rfl) ?_
        refine lv_iload hx hb dX6_opens_54 (lv_at hl 4 rfl) ?_
        refine lv_iadd hx hb dX6_opens_56 ?_
        refine lv_iconst (v := 1) hx hb dX6_opens_57 (by decide) ?_
        refine lv_iadd hx hb dX6_opens_58 ?_
        obtain ⟨hg, hf⟩ := gdE hf
        obtain ⟨v12, hv12, hf⟩ := nmE hf
        refine q_iald hx hb hw 1 ma_1 (inb_in hg) dX6_opens_59 ?_
        refine q_is hv12 ?_
        obtain ⟨hg, hf⟩ := gdE hf
        obtain ⟨M13, hM13, hf⟩ := nmE hf
        refine q_iast hx hb hw 1 ma_1 (inb_in hg) dX6_opens_60 (ms_1.trans (congrArg (fun z => (mws cI ad z)) hM13.symm)) (fun H locs hw => ?_)
        obtain ⟨v14, hv14, hf⟩ := nmE hf
        refine lv_iinc (v := v14) (lv' := [(4, .int v14), (0, .ref (ad 0)), (1, .int x1), (2, .int x2), (3, .int x3)]) hx hb dX6_opens_61 hl (k := 4) rfl (by rw [hv14]; rfl) (by decide) rfl (fun ls hl => ?_)
        refine lv_goto (tgt := 30) hx hb dX6_opens_64 (by decide) ?_
        exact ih30 M13 x1 x2 x3 v14 H locs ls hf hw (lv_sub hl [1, 2, 3, 4, 0] rfl)
  refine lv_bipush (v := 86) hx hb dX6_opens_0 (by decide) ?_
  refine lv_bipush (v := 11) hx hb dX6_opens_2 (by decide) ?_
  refine lv_iload_n hx hb dX6_opens_4 rfl (lv_at hl 1 rfl) ?_
  refine lv_imul hx hb dX6_opens_5 ?_
  refine lv_iadd hx hb dX6_opens_6 ?_
  obtain ⟨v1, hv1, hf⟩ := nmE hf
  refine q_is hv1 ?_
  refine lv_istore_n (lv' := [(2, .int v1), (0, .ref (ad 0)), (1, .int a1)]) hx hb dX6_opens_7 rfl hl (by decide) rfl (fun ls hl => ?_)
  refine lv_aload_n hx hb dX6_opens_8 rfl (lv_at hl 1 rfl) ?_
  refine q_get hx hb hts hiX6 hown hw 0 ma_0 rfl 1 (by decide) (hts (.fieldLink RX6 7 "LaceRanksModel" "s" "[I") (by decide +kernel)) rfl dX6_opens_9 ?_
  refine lv_iload_n hx hb dX6_opens_12 rfl (lv_at hl 0 rfl) ?_
  refine lv_iconst (v := 1) hx hb dX6_opens_13 (by decide) ?_
  refine lv_iadd hx hb dX6_opens_14 ?_
  obtain ⟨hg, hf⟩ := gdE hf
  obtain ⟨v2, hv2, hf⟩ := nmE hf
  refine q_iald hx hb hw 1 ma_1 (inb_in hg) dX6_opens_15 ?_
  refine q_is hv2 ?_
  refine lv_istore_n (lv' := [(3, .int v2), (2, .int v1), (0, .ref (ad 0)), (1, .int a1)]) hx hb dX6_opens_16 rfl hl (by decide) rfl (fun ls hl => ?_)
  refine lv_aload_n hx hb dX6_opens_17 rfl (lv_at hl 2 rfl) ?_
  refine q_get hx hb hts hiX6 hown hw 0 ma_0 rfl 1 (by decide) (hts (.fieldLink RX6 7 "LaceRanksModel" "s" "[I") (by decide +kernel)) rfl dX6_opens_18 ?_
  refine lv_iload_n hx hb dX6_opens_21 rfl (lv_at hl 1 rfl) ?_
  refine lv_dup2_11 hx hb dX6_opens_22 rfl rfl ?_
  obtain ⟨hg, hf⟩ := gdE hf
  obtain ⟨v3, hv3, hf⟩ := nmE hf
  refine q_iald hx hb hw 1 ma_1 (inb_in hg) dX6_opens_23 ?_
  refine q_is hv3 ?_
  refine lv_iconst (v := 1) hx hb dX6_opens_24 (by decide) ?_
  refine lv_isub hx hb dX6_opens_25 ?_
  obtain ⟨hg, hf⟩ := gdE hf
  obtain ⟨M4, hM4, hf⟩ := nmE hf
  refine q_iast hx hb hw 1 ma_1 (inb_in hg) dX6_opens_26 (ms_1.trans (congrArg (fun z => (mws cI ad z)) hM4.symm)) (fun H locs hw => ?_)
  refine lv_iconst (v := 1) hx hb dX6_opens_27 (by decide) ?_
  refine lv_istore (lv' := [(4, .int 1), (3, .int v2), (2, .int v1), (0, .ref (ad 0)), (1, .int a1)]) hx hb dX6_opens_28 hl (by decide) rfl (fun ls hl => ?_)
  exact L30 fuelN M4 a1 v1 v2 1 H locs ls hf hw (lv_sub hl [3, 4, 2, 1, 0] rfl)

def f_X6_nights_l67    : Nat → MS → Int32 → Int32 → Option (Int32 × MS)
  | 0, _, _, _ => none
  | n67 + 1, M, x1, x2 => (if 3 ≤ x2 then gd (inb 0 952) (nm (M.1 0 (0 : Int32).toNatClampNeg) (fun v1 => gd (inb 0 952) (nm (upM M 0 (upd (M.1 0) (0 : Int32).toNatClampNeg (v1 + 1))) (fun M2 => some (x1, M2))))) else gd (inb (86 + (11 * x2)) 952) (nm (upM M 0 (upd (M.1 0) (86 + (11 * x2)).toNatClampNeg 0)) (fun M3 => nm (x2 + 1) (fun v4 => (f_X6_nights_l67 n67) M3 x1 v4))))
def f_X6_nights_b56 (k4 : MS → Int32 → Int32 → Option (Int32 × MS))   (M : MS) (x1 : Int32) (x2 : Int32) (y0 : Int32) (y1 : Int32) (y2 : Int32) : Option (Int32 × MS) := bnd (f_X6_lay M y2 y1 y0) (fun M1 => nm (x2 + 1) (fun v2 => k4 M1 x1 v2))
def f_X6_nights_l4    : Nat → MS → Int32 → Int32 → Option (Int32 × MS)
  | 0, _, _, _ => none
  | n4 + 1, M, x1, x2 => gd (inb 1 952) (nm (M.1 0 (1 : Int32).toNatClampNeg) (fun v1 => (if v1 ≤ x2 then f_X6_nights_l67 fuelN M x1 0 else bnd (f_X6_of M x2 6) (fun r2 => bnd (f_X6_lay M x2 6 0) (fun M3 => bnd (f_X6_of M3 x2 5) (fun r4 => (if r4 = 0 then f_X6_nights_b56 (f_X6_nights_l4 n4) M3 (x1 + r2) x2 0 5 x2 else bnd (f_X6_of M3 x2 5) (fun r5 => f_X6_nights_b56 (f_X6_nights_l4 n4) M3 (x1 + r2) x2 (r5 - 1) 5 x2))))))))
def f_X6_nights (M : MS)   : Option (Int32 × MS) := f_X6_nights_l4 fuelN M 0 0
set_option maxHeartbeats 4000000 in
set_option maxRecDepth 100000 in
theorem c_X6_nights {l : Launch} {D : va_G} {cI cR : ClassId} {ad : Nat → Nat} {A : Nat → Prop} {M : MS} {M' : MS}  {r : Int32}  (hf : f_X6_nights M = some (r, M')) : MC l yX6_nights wsX6_nights 1 23 D cI cR A [.ref (ad 0)] (mws cI ad M) (some (.int r)) (mws cI ad M') := by
  refine Met.ofW (cc := cX6_nights) (maxL := 3) (ret := (some .int)) (by decide) rfl ?_
  intro p e s m args below meth c s₁ B hml hv
  obtain ⟨rfl, hw⟩ := q_start hv
  have hx := B.exec
  have hb := B.bytes
  have hr := B.returns
  have hts := atoms_spec (ws := wsX6_nights) B.pre
  have hown : s.vm.findClass RX6 = some m.cls := findClass_of_methodNamed B.named
  have hlocks := B.notSynchronized
  have hiX6 : ∀ w ∈ wsX60, w ∈ wsX6_nights := by decide +kernel
  have hl := lv_entry ([.ref (ad 0)]) (n := 3) (Nat.le_of_ble_eq_true rfl)
  rw [lg_entry_eq]
  generalize (lg_sl ([.ref (ad 0)]) ++ List.replicate (3 - (lg_sl ([.ref (ad 0)])).length) Slot.unset).toArray = ls at hl ⊢
  have hl : lv_has ls 3 [(0, .ref (ad 0))] := hl
  unfold f_X6_nights at hf
  obtain ⟨H, eH⟩ : ∃ H, H = s.heap := ⟨_, rfl⟩
  obtain ⟨locs, eL⟩ : ∃ L : List Loc, L = [] := ⟨_, rfl⟩
  rw [← eH, ← eL] at hw ⊢
  clear eH eL
  have L67 : ∀ (n67 : Nat) (M : MS) (x1 : Int32) (x2 : Int32) (H : Heap) (locs : List Loc) (ls : Array Slot), f_X6_nights_l67 n67 M x1 x2 = some (r, M') → WH D cI cR A (mws cI ad M) s H locs → lv_has ls 3 [(0, .ref (ad 0)), (1, .int x1), (2, .int x2)] → W p l e (headSpec wsX6_nights ({ frames := 1, cells := 0, slots := 0, locals := 23 })).room s m ([.ref (ad 0)] : List Value).toArray below meth c H locs 0 0 (MQ below (QV (some (.int r)) D A (mws cI ad M')) (([.ref (ad 0)] : List Value)).toArray s 0 0 A) (F0 m 67 ls []) := by
    intro n67
    induction n67 with
    | zero => intro M x1 x2 H locs ls hf; cases hf
    | succ n67 ih =>
      have ih67 := ih
      intro M x1 x2 H locs ls hf hw hl
      simp only [f_X6_nights_l67] at hf
      refine lv_iload_n hx hb dX6_nights_67 rfl (lv_at hl 2 rfl) ?_
      refine lv_iconst (v := 3) hx hb dX6_nights_68 (by decide) ?_
      refine lv_icmp_ge (tgt := 91) hx hb dX6_nights_69 (by decide) (fun hc => ?_) (fun hc => ?_)
      · have hf := iteT hf hc
        refine lv_aload_n hx hb dX6_nights_91 rfl (lv_at hl 0 rfl) ?_
        refine q_get hx hb hts hiX6 hown hw 0 ma_0 rfl 1 (by decide) (hts (.fieldLink RX6 7 "LaceRanksModel" "s" "[I") (by decide +kernel)) rfl dX6_nights_92 ?_
        refine lv_iconst (v := 0) hx hb dX6_nights_95 (by decide) ?_
        refine lv_dup2_11 hx hb dX6_nights_96 rfl rfl ?_
        obtain ⟨hg, hf⟩ := gdE hf
        obtain ⟨v1, hv1, hf⟩ := nmE hf
        refine q_iald hx hb hw 1 ma_1 (inb_in hg) dX6_nights_97 ?_
        refine q_is hv1 ?_
        refine lv_iconst (v := 1) hx hb dX6_nights_98 (by decide) ?_
        refine lv_iadd hx hb dX6_nights_99 ?_
        obtain ⟨hg, hf⟩ := gdE hf
        obtain ⟨M2, hM2, hf⟩ := nmE hf
        refine q_iast hx hb hw 1 ma_1 (inb_in hg) dX6_nights_100 (ms_1.trans (congrArg (fun z => (mws cI ad z)) hM2.symm)) (fun H locs hw => ?_)
        refine lv_iload_n hx hb dX6_nights_101 rfl (lv_at hl 1 rfl) ?_
        cases hf
        exact q_iret hx hb hr hlocks hw dX6_nights_102
      · have hf := iteF hf hc
        refine lv_aload_n hx hb dX6_nights_72 rfl (lv_at hl 0 rfl) ?_
        refine q_get hx hb hts hiX6 hown hw 0 ma_0 rfl 1 (by decide) (hts (.fieldLink RX6 7 "LaceRanksModel" "s" "[I") (by decide +kernel)) rfl dX6_nights_73 ?_
        refine lv_bipush (v := 86) hx hb dX6_nights_76 (by decide) ?_
        refine lv_bipush (v := 11) hx hb dX6_nights_78 (by decide) ?_
        refine lv_iload_n hx hb dX6_nights_80 rfl (lv_at hl 2 rfl) ?_
        refine lv_imul hx hb dX6_nights_81 ?_
        refine lv_iadd hx hb dX6_nights_82 ?_
        refine lv_iconst (v := 0) hx hb dX6_nights_83 (by decide) ?_
        obtain ⟨hg, hf⟩ := gdE hf
        obtain ⟨M3, hM3, hf⟩ := nmE hf
        refine q_iast hx hb hw 1 ma_1 (inb_in hg) dX6_nights_84 (ms_1.trans (congrArg (fun z => (mws cI ad z)) hM3.symm)) (fun H locs hw => ?_)
        obtain ⟨v4, hv4, hf⟩ := nmE hf
        refine lv_iinc (v := v4) (lv' := [(2, .int v4), (0, .ref (ad 0)), (1, .int x1)]) hx hb dX6_nights_85 hl (k := 2) rfl (by rw [hv4]; rfl) (by decide) rfl (fun ls hl => ?_)
        refine lv_goto (tgt := 67) hx hb dX6_nights_88 (by decide) ?_
        exact ih67 M3 x1 v4 H locs ls hf hw (lv_sub hl [1, 2, 0] rfl)
  have L4 : ∀ (n4 : Nat) (M : MS) (x1 : Int32) (x2 : Int32) (H : Heap) (locs : List Loc) (ls : Array Slot), f_X6_nights_l4 n4 M x1 x2 = some (r, M') → WH D cI cR A (mws cI ad M) s H locs → lv_has ls 3 [(0, .ref (ad 0)), (1, .int x1), (2, .int x2)] → W p l e (headSpec wsX6_nights ({ frames := 1, cells := 0, slots := 0, locals := 23 })).room s m ([.ref (ad 0)] : List Value).toArray below meth c H locs 0 0 (MQ below (QV (some (.int r)) D A (mws cI ad M')) (([.ref (ad 0)] : List Value)).toArray s 0 0 A) (F0 m 4 ls []) := by
    intro n4
    induction n4 with
    | zero => intro M x1 x2 H locs ls hf; cases hf
    | succ n4 ih =>
      have ih4 := ih
      have B56 : ∀ (M : MS) (x1 : Int32) (x2 : Int32) (y0 : Int32) (y1 : Int32) (y2 : Int32) (H : Heap) (locs : List Loc) (ls : Array Slot), f_X6_nights_b56 (f_X6_nights_l4 n4) M x1 x2 y0 y1 y2 = some (r, M') → WH D cI cR A (mws cI ad M) s H locs → lv_has ls 3 [(0, .ref (ad 0)), (1, .int x1), (2, .int x2)] → W p l e (headSpec wsX6_nights ({ frames := 1, cells := 0, slots := 0, locals := 23 })).room s m ([.ref (ad 0)] : List Value).toArray below meth c H locs 0 0 (MQ below (QV (some (.int r)) D A (mws cI ad M')) (([.ref (ad 0)] : List Value)).toArray s 0 0 A) (F0 m 56 ls [.int y0, .int y1, .int y2, .ref (ad 0)]) := by
        intro M x1 x2 y0 y1 y2 H locs ls hf hw hl
        unfold f_X6_nights_b56 at hf
        obtain ⟨M1, hr1, hf⟩ := bndS hf
        refine q_callV (rest := []) (st1 := []) [.int y2, .int y1, .int y0] ⟨hx, hb, hml, hown, hts⟩ (c_X6_lay hr1) (cwV 3 hts gX6_nights_X6_lay rfl rfl rfl (by decide +kernel) ⟨Nat.le_of_ble_eq_true rfl, Nat.le_of_ble_eq_true rfl⟩) hw ma_0 rfl rfl hl.1 rfl (Nat.le_of_ble_eq_true rfl) dX6_nights_56 ⟨Nat.zero_le _, Nat.zero_le _⟩ rfl (fun H locs hw => ?_)
        obtain ⟨v2, hv2, hf⟩ := nmE hf
        refine lv_iinc (v := v2) (lv' := [(2, .int v2), (0, .ref (ad 0)), (1, .int x1)]) hx hb dX6_nights_59 hl (k := 2) rfl (by rw [hv2]; rfl) (by decide) rfl (fun ls hl => ?_)
        refine lv_goto (tgt := 4) hx hb dX6_nights_62 (by decide) ?_
        exact ih4 M1 x1 v2 H locs ls hf hw (lv_sub hl [1, 2, 0] rfl)
      intro M x1 x2 H locs ls hf hw hl
      simp only [f_X6_nights_l4] at hf
      refine lv_iload_n hx hb dX6_nights_4 rfl (lv_at hl 2 rfl) ?_
      refine lv_aload_n hx hb dX6_nights_5 rfl (lv_at hl 0 rfl) ?_
      refine q_get hx hb hts hiX6 hown hw 0 ma_0 rfl 1 (by decide) (hts (.fieldLink RX6 7 "LaceRanksModel" "s" "[I") (by decide +kernel)) rfl dX6_nights_6 ?_
      refine lv_iconst (v := 1) hx hb dX6_nights_9 (by decide) ?_
      obtain ⟨hg, hf⟩ := gdE hf
      obtain ⟨v1, hv1, hf⟩ := nmE hf
      refine q_iald hx hb hw 1 ma_1 (inb_in hg) dX6_nights_10 ?_
      refine q_is hv1 ?_
      refine lv_icmp_ge (tgt := 65) hx hb dX6_nights_11 (by decide) (fun hc => ?_) (fun hc => ?_)
      · have hf := iteT hf hc
        refine lv_iconst (v := 0) hx hb dX6_nights_65 (by decide) ?_
        refine lv_istore_n (lv' := [(2, .int 0), (0, .ref (ad 0)), (1, .int x1)]) hx hb dX6_nights_66 rfl hl (by decide) rfl (fun ls hl => ?_)
        exact L67 fuelN M x1 0 H locs ls hf hw (lv_sub hl [1, 2, 0] rfl)
      · have hf := iteF hf hc
        refine lv_iload_n hx hb dX6_nights_14 rfl (lv_at hl 1 rfl) ?_
        refine lv_aload_n hx hb dX6_nights_15 rfl (lv_at hl 0 rfl) ?_
        refine lv_iload_n hx hb dX6_nights_16 rfl (lv_at hl 2 rfl) ?_
        refine lv_bipush (v := 6) hx hb dX6_nights_17 (by decide) ?_
        obtain ⟨r2, hr2, hf⟩ := bndS hf
        refine q_callV (rest := [.int x1]) (st1 := [.int r2, .int x1]) [.int x2, .int 6] ⟨hx, hb, hml, hown, hts⟩ (c_X6_of hr2) (cwV 2 hts gX6_nights_X6_of rfl rfl rfl (by decide +kernel) ⟨Nat.le_of_ble_eq_true rfl, Nat.le_of_ble_eq_true rfl⟩) hw ma_0 rfl rfl hl.1 rfl (Nat.le_of_ble_eq_true rfl) dX6_nights_19 ⟨Nat.zero_le _, Nat.zero_le _⟩ rfl (fun H locs hw => ?_)
        refine lv_iadd hx hb dX6_nights_22 ?_
        refine lv_istore_n (lv' := [(1, .int (x1 + r2)), (0, .ref (ad 0)), (2, .int x2)]) hx hb dX6_nights_23 rfl hl (by decide) rfl (fun ls hl => ?_)
        refine lv_aload_n hx hb dX6_nights_24 rfl (lv_at hl 1 rfl) ?_
        refine lv_iload_n hx hb dX6_nights_25 rfl (lv_at hl 2 rfl) ?_
        refine lv_bipush (v := 6) hx hb dX6_nights_26 (by decide) ?_
        refine lv_iconst (v := 0) hx hb dX6_nights_28 (by decide) ?_
        obtain ⟨M3, hr3, hf⟩ := bndS hf
        refine q_callV (rest := []) (st1 := []) [.int x2, .int 6, .int 0] ⟨hx, hb, hml, hown, hts⟩ (c_X6_lay hr3) (cwV 3 hts gX6_nights_X6_lay rfl rfl rfl (by decide +kernel) ⟨Nat.le_of_ble_eq_true rfl, Nat.le_of_ble_eq_true rfl⟩) hw ma_0 rfl rfl hl.1 rfl (Nat.le_of_ble_eq_true rfl) dX6_nights_29 ⟨Nat.zero_le _, Nat.zero_le _⟩ rfl (fun H locs hw => ?_)
        refine lv_aload_n hx hb dX6_nights_32 rfl (lv_at hl 1 rfl) ?_
        refine lv_iload_n hx hb dX6_nights_33 rfl (lv_at hl 2 rfl) ?_
        refine lv_iconst (v := 5) hx hb dX6_nights_34 (by decide) ?_
        refine lv_aload_n hx hb dX6_nights_35 rfl (lv_at hl 1 rfl) ?_
        refine lv_iload_n hx hb dX6_nights_36 rfl (lv_at hl 2 rfl) ?_
        refine lv_iconst (v := 5) hx hb dX6_nights_37 (by decide) ?_
        obtain ⟨r4, hr4, hf⟩ := bndS hf
        refine q_callV (rest := [.int 5, .int x2, .ref (ad 0)]) (st1 := [.int r4, .int 5, .int x2, .ref (ad 0)]) [.int x2, .int 5] ⟨hx, hb, hml, hown, hts⟩ (c_X6_of hr4) (cwV 2 hts gX6_nights_X6_of rfl rfl rfl (by decide +kernel) ⟨Nat.le_of_ble_eq_true rfl, Nat.le_of_ble_eq_true rfl⟩) hw ma_0 rfl rfl hl.1 rfl (Nat.le_of_ble_eq_true rfl) dX6_nights_38 ⟨Nat.zero_le _, Nat.zero_le _⟩ rfl (fun H locs hw => ?_)
        refine lv_if_ne (tgt := 48) hx hb dX6_nights_41 (by decide) (fun hc => ?_) (fun hc => ?_)
        · have hf := iteF hf hc
          refine lv_aload_n hx hb dX6_nights_48 rfl (lv_at hl 1 rfl) ?_
          refine lv_iload_n hx hb dX6_nights_49 rfl (lv_at hl 2 rfl) ?_
          refine lv_iconst (v := 5) hx hb dX6_nights_50 (by decide) ?_
          obtain ⟨r5, hr5, hf⟩ := bndS hf
          refine q_callV (rest := [.int 5, .int x2, .ref (ad 0)]) (st1 := [.int r5, .int 5, .int x2, .ref (ad 0)]) [.int x2, .int 5] ⟨hx, hb, hml, hown, hts⟩ (c_X6_of hr5) (cwV 2 hts gX6_nights_X6_of rfl rfl rfl (by decide +kernel) ⟨Nat.le_of_ble_eq_true rfl, Nat.le_of_ble_eq_true rfl⟩) hw ma_0 rfl rfl hl.1 rfl (Nat.le_of_ble_eq_true rfl) dX6_nights_51 ⟨Nat.zero_le _, Nat.zero_le _⟩ rfl (fun H locs hw => ?_)
          refine lv_iconst (v := 1) hx hb dX6_nights_54 (by decide) ?_
          refine lv_isub hx hb dX6_nights_55 ?_
          exact B56 M3 (x1 + r2) x2 (r5 - 1) 5 x2 H locs ls hf hw (lv_sub hl [1, 0, 2] rfl)
        · have hf := iteT hf hc
          refine lv_iconst (v := 0) hx hb dX6_nights_44 (by decide) ?_
          refine lv_goto (tgt := 56) hx hb dX6_nights_45 (by decide) ?_
          exact B56 M3 (x1 + r2) x2 0 5 x2 H locs ls hf hw (lv_sub hl [1, 0, 2] rfl)
  refine lv_iconst (v := 0) hx hb dX6_nights_0 (by decide) ?_
  refine lv_istore_n (lv' := [(1, .int 0), (0, .ref (ad 0))]) hx hb dX6_nights_1 rfl hl (by decide) rfl (fun ls hl => ?_)
  refine lv_iconst (v := 0) hx hb dX6_nights_2 (by decide) ?_
  refine lv_istore_n (lv' := [(2, .int 0), (1, .int 0), (0, .ref (ad 0))]) hx hb dX6_nights_3 rfl hl (by decide) rfl (fun ls hl => ?_)
  exact L4 fuelN M 0 0 H locs ls hf hw (lv_sub hl [2, 1, 0] rfl)
