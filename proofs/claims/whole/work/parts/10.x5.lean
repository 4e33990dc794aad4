def f_X5_numberOf (O : XO) (K : RK)  (a1 : Int32) : Option Int32 := (if a1 = 21 then some (O 8 0 2) else bnd (f_X0_countNumber K a1) (fun r1 => some r1))
set_option maxHeartbeats 4000000 in
set_option maxRecDepth 100000 in
theorem c_X5_numberOf {l : Launch} {D : va_G} {cI cR : ClassId} {ad : Nat → Nat} {A : Nat → Prop} {O : XO} {K : RK}  {a1 : Int32} {r : Int32}  (hf : f_X5_numberOf O K a1 = some r) : MC l yX5_numberOf wsX5_numberOf 4 85 D cI cR A [.ref (ad 0), .int a1] (xws cI cR ad O K) (some (.int r)) (xws cI cR ad O K) := by
  refine Met.ofW (cc := cX5_numberOf) (maxL := 2) (ret := (some .int)) (by decide) rfl ?_
  intro p e s m args below meth c s₁ B hml hv
  obtain ⟨rfl, hw⟩ := q_start hv
  have hx := B.exec
  have hb := B.bytes
  have hr := B.returns
  have hts := atoms_spec (ws := wsX5_numberOf) B.pre
  have hown : s.vm.findClass RX5 = some m.cls := findClass_of_methodNamed B.named
  have hlocks := B.notSynchronized
  have hiX2 : ∀ w ∈ wsX20, w ∈ wsX5_numberOf := by decide +kernel
  have hiX5 : ∀ w ∈ wsX50, w ∈ wsX5_numberOf := by decide +kernel
  have hl := lv_entry ([.ref (ad 0), .int a1]) (n := 2) (Nat.le_of_ble_eq_true rfl)
  rw [lg_entry_eq]
  generalize (lg_sl ([.ref (ad 0), .int a1]) ++ List.replicate (2 - (lg_sl ([.ref (ad 0), .int a1])).length) Slot.unset).toArray = ls at hl ⊢
  have hl : lv_has ls 2 [(0, .ref (ad 0)), (1, .int a1)] := hl
  unfold f_X5_numberOf at hf
  obtain ⟨H, eH⟩ : ∃ H, H = s.heap := ⟨_, rfl⟩
  obtain ⟨locs, eL⟩ : ∃ L : List Loc, L = [] := ⟨_, rfl⟩
  rw [← eH, ← eL] at hw ⊢
  clear eH eL
  refine lv_iload_n hx hb dX5_numberOf_0 rfl (lv_at hl 1 rfl) ?_
  refine lv_bipush (v := 21) hx hb dX5_numberOf_1 (by decide) ?_
  refine lv_icmp_ne (tgt := 16) hx hb dX5_numberOf_3 (by decide) (fun hc => ?_) (fun hc => ?_)
  · have hf := iteF hf hc
    refine lv_aload_n hx hb dX5_numberOf_16 rfl (lv_at hl 0 rfl) ?_
    refine q_get hx hb hts hiX5 hown hw 0 xa_0 rfl 0 (by decide) (hts (.fieldLink RX5 10 "LaceRanks" "now" "LLaceRanks$Carnival;") (by decide +kernel)) rfl dX5_numberOf_17 ?_
    refine lv_iload_n hx hb dX5_numberOf_20 rfl (lv_at hl 1 rfl) ?_
    obtain ⟨r1, hr1, hf⟩ := bndS hf
    refine q_callVN (rest := []) (st1 := [.int r1]) [.int a1] ⟨hx, hb, hml, hown, hts⟩ (c_X0_countNumber hr1) ⟨va_cnB 1 hts gX5_numberOf_X0_countNumber_n269 rfl rfl rfl (nw_X5_269 hw.2.2.2.2) (hts (.initialized RX0) (by decide +kernel)) (by decide +kernel) ⟨Nat.le_of_ble_eq_true rfl, Nat.le_of_ble_eq_true rfl⟩, (hts (.instanceMethod yX0_countNumber) (by decide +kernel)), (hts (.selects RX0 yX0_countNumber yX0_countNumber) (by decide +kernel))⟩ hw xa_1 rfl rfl hl.1 rfl (Nat.le_of_ble_eq_true rfl) dX5_numberOf_21 ⟨Nat.zero_le _, Nat.zero_le _⟩ rfl (fun H locs hw => ?_)
    cases hf
    exact q_iret hx hb hr hlocks hw dX5_numberOf_24
  · have hf := iteT hf hc
    refine lv_aload_n hx hb dX5_numberOf_6 rfl (lv_at hl 0 rfl) ?_
    refine q_get hx hb hts hiX5 hown hw 0 xa_0 rfl 2 (by decide) (hts (.fieldLink RX5 22 "LaceRanks" "history" "LLaceRanks$History;") (by decide +kernel)) rfl dX5_numberOf_7 ?_
    refine q_getN hx hb hts hiX2 hown hw 29 xa_29 rfl 2 (by decide) (nw_X5_184 hw.2.2.2.2) rfl dX5_numberOf_10 ?_
    refine lv_goto (tgt := 24) hx hb dX5_numberOf_13 (by decide) ?_
    cases hf
    exact q_iret hx hb hr hlocks hw dX5_numberOf_24

def f_X5_mix   (a0 : Int64) (a2 : Int64) : Option Int64 := some (((31 : Int64) * a0) + a2)
set_option maxHeartbeats 4000000 in
set_option maxRecDepth 100000 in
theorem c_X5_mix {l : Launch} {D : va_G} {cI cR : ClassId} {A : Nat → Prop} {w : va_W}  {a0 : Int64} {a2 : Int64} {r : Int64}  (hf : f_X5_mix a0 a2 = some r) : MC l yX5_mix wsX5_mix 0 0 D cI cR A [.long a0, .long a2] w (some (.long r)) w := by
  refine Met.ofW (cc := cX5_mix) (maxL := 4) (ret := (some .long)) (by decide) rfl ?_
  intro p e s m args below meth c s₁ B hml hv
  obtain ⟨rfl, hw⟩ := q_start hv
  have hx := B.exec
  have hb := B.bytes
  have hr := B.returns
  have hts := atoms_spec (ws := wsX5_mix) B.pre
  have hown : s.vm.findClass RX5 = some m.cls := findClass_of_methodNamed B.named
  have hlocks := B.notSynchronized
  have hl := lv_entry ([.long a0, .long a2]) (n := 4) (Nat.le_of_ble_eq_true rfl)
  rw [lg_entry_eq]
  generalize (lg_sl ([.long a0, .long a2]) ++ List.replicate (4 - (lg_sl ([.long a0, .long a2])).length) Slot.unset).toArray = ls at hl ⊢
  have hl : lv_has ls 4 [(0, .long a0), (2, .long a2)] := hl
  unfold f_X5_mix at hf
  obtain ⟨H, eH⟩ : ∃ H, H = s.heap := ⟨_, rfl⟩
  obtain ⟨locs, eL⟩ : ∃ L : List Loc, L = [] := ⟨_, rfl⟩
  rw [← eH, ← eL] at hw ⊢
  clear eH eL
  refine lv_ldc2 (v := 31) hx hb hown (hts (.constantLong RX5 290 31) (by decide +kernel)) dX5_mix_0 ?_
  refine lv_lload_n hx hb dX5_mix_3 rfl (lv_at hl 0 rfl) ?_
  refine lv_lmul hx hb dX5_mix_4 ?_
  refine lv_lload_n hx hb dX5_mix_5 rfl (lv_at hl 1 rfl) ?_
  refine lv_ladd hx hb dX5_mix_6 ?_
  cases hf
  exact q_lret hx hb hr hlocks hw dX5_mix_7

def f_X5_mixGuest_l97 (k88 : Int32 → Int64 → Int32 → Option Int64) (K : RK)  : Nat → Int32 → Int64 → Int32 → Int32 → Option Int64
  | 0, _, _, _, _ => none
  | n97 + 1, x3, x4, x6, x7 => (if 4 ≤ x7 then bnd (f_X0_nightsUntilAllowed K x3 x6) (fun r1 => bnd (f_X5_mix x4 r1.toInt64) (fun r2 => nm (x6 + 1) (fun v3 => k88 x3 r2 v3))) else bnd (f_X0_gateNumber K x3 x6 x7) (fun r4 => bnd (f_X5_mix x4 r4.toInt64) (fun r5 => nm (x7 + 1) (fun v6 => (f_X5_mixGuest_l97 k88 K n97) x3 r5 x6 v6))))
def f_X5_mixGuest_l88  (K : RK)  : Nat → Int32 → Int64 → Int32 → Option Int64
  | 0, _, _, _ => none
  | n88 + 1, x3, x4, x6 => (if 3 ≤ x6 then some x4 else f_X5_mixGuest_l97 (f_X5_mixGuest_l88 K n88) K fuelN x3 x4 x6 0)
def f_X5_mixGuest_l6  (K : RK)  : Nat → Int32 → Int64 → Int32 → Option Int64
  | 0, _, _, _ => none
  | n6 + 1, x3, x4, x6 => (if 11 ≤ x6 then bnd (f_X0_reasonNoMask K x3) (fun r1 => bnd (f_X5_mix x4 r1.toInt64) (fun r2 => bnd (f_X0_reasonNoLine K x3) (fun r3 => bnd (f_X5_mix r2 r3.toInt64) (fun r4 => bnd (f_X0_gateOfFewestElls K x3) (fun r5 => bnd (f_X5_mix r4 r5.toInt64) (fun r6 => f_X5_mixGuest_l88 K fuelN x3 r6 0)))))) else bnd (f_X0_guestNumber K x3 x6) (fun r7 => bnd (f_X5_mix x4 r7.toInt64) (fun r8 => nm (x6 + 1) (fun v9 => (f_X5_mixGuest_l6 K n6) x3 r8 v9))))
def f_X5_mixGuest (K : RK)  (a1 : Int64) (a3 : Int32) : Option Int64 := f_X5_mixGuest_l6 K fuelN a3 a1 0
set_option maxHeartbeats 4000000 in
set_option maxRecDepth 100000 in
theorem c_X5_mixGuest {l : Launch} {D : va_G} {cI cR : ClassId} {ad : Nat → Nat} {A : Nat → Prop} {O : XO} {K : RK}  {a1 : Int64} {a3 : Int32} {r : Int64}  (hf : f_X5_mixGuest K a1 a3 = some r) : MC l yX5_mixGuest wsX5_mixGuest 5 113 D cI cR A [.ref (ad 0), .long a1, .int a3] (xws cI cR ad O K) (some (.long r)) (xws cI cR ad O K) := by
  refine Met.ofW (cc := cX5_mixGuest) (maxL := 8) (ret := (some .long)) (by decide) rfl ?_
  intro p e s m args below meth c s₁ B hml hv
  obtain ⟨rfl, hw⟩ := q_start hv
  have hx := B.exec
  have hb := B.bytes
  have hr := B.returns
  have hts := atoms_spec (ws := wsX5_mixGuest) B.pre
  have hown : s.vm.findClass RX5 = some m.cls := findClass_of_methodNamed B.named
  have hlocks := B.notSynchronized
  have hiX5 : ∀ w ∈ wsX50, w ∈ wsX5_mixGuest := by decide +kernel
  have hl := lv_entry ([.ref (ad 0), .long a1, .int a3]) (n := 8) (Nat.le_of_ble_eq_true rfl)
  rw [lg_entry_eq]
  generalize (lg_sl ([.ref (ad 0), .long a1, .int a3]) ++ List.replicate (8 - (lg_sl ([.ref (ad 0), .long a1, .int a3])).length) Slot.unset).toArray = ls at hl ⊢
  have hl : lv_has ls 8 [(0, .ref (ad 0)), (1, .long a1), (3, .int a3)] := hl
  unfold f_X5_mixGuest at hf
  obtain ⟨H, eH⟩ : ∃ H, H = s.heap := ⟨_, rfl⟩
  obtain ⟨locs, eL⟩ : ∃ L : List Loc, L = [] := ⟨_, rfl⟩
  rw [← eH, ← eL] at hw ⊢
  clear eH eL
  have L88 : ∀ (n88 : Nat) (x3 : Int32) (x4 : Int64) (x6 : Int32) (H : Heap) (locs : List Loc) (ls : Array Slot), f_X5_mixGuest_l88 K n88 x3 x4 x6 = some r → WH D cI cR A (xws cI cR ad O K) s H locs → lv_has ls 8 [(0, .ref (ad 0)), (3, .int x3), (4, .long x4), (6, .int x6)] → W p l e (headSpec wsX5_mixGuest ({ frames := 5, cells := 0, slots := 0, locals := 113 })).room s m ([.ref (ad 0), .long a1, .int a3] : List Value).toArray below meth c H locs 0 0 (MQ below (QV (some (.long r)) D A (xws cI cR ad O K)) (([.ref (ad 0), .long a1, .int a3] : List Value)).toArray s 0 0 A) (F0 m 88 ls []) := by
    intro n88
    induction n88 with
    | zero => intro x3 x4 x6 H locs ls hf; cases hf
    | succ n88 ih =>
      have ih88 := ih
      have L97 : ∀ (n97 : Nat) (x3 : Int32) (x4 : Int64) (x6 : Int32) (x7 : Int32) (H : Heap) (locs : List Loc) (ls : Array Slot), f_X5_mixGuest_l97 (f_X5_mixGuest_l88 K n88) K n97 x3 x4 x6 x7 = some r → WH D cI cR A (xws cI cR ad O K) s H locs → lv_has ls 8 [(0, .ref (ad 0)), (3, .int x3), (4, .long x4), (6, .int x6), (7, .int x7)] → W p l e (headSpec wsX5_mixGuest ({ frames := 5, cells := 0, slots := 0, locals := 113 })).room s m ([.ref (ad 0), .long a1, .int a3] : List Value).toArray below meth c H locs 0 0 (MQ below (QV (some (.long r)) D A (xws cI cR ad O K)) (([.ref (ad 0), .long a1, .int a3] : List Value)).toArray s 0 0 A) (F0 m 97 ls []) := by
        intro n97
        induction n97 with
        | zero => intro x3 x4 x6 x7 H locs ls hf; cases hf
        | succ n97 ih =>
          have ih97 := ih
          intro x3 x4 x6 x7 H locs ls hf hw hl
          simp only [f_X5_mixGuest_l97] at hf
          refine lv_iload hx hb dX5_mixGuest_97 (lv_at hl 4 rfl) ?_
          refine lv_iconst (v := 4) hx hb dX5_mixGuest_99 (by decide) ?_
          refine lv_icmp_ge (tgt := 129) hx hb dX5_mixGuest_100 (by decide) (fun hc => ?_) (fun hc => ?_)
          · have hf := iteT hf hc
            refine lv_lload hx hb dX5_mixGuest_129 (lv_at hl 2 rfl) ?_
            refine lv_aload_n hx hb dX5_mixGuest_131 rfl (lv_at hl 0 rfl) ?_
            refine q_get hx hb hts hiX5 hown hw 0 xa_0 rfl 0 (by decide) (hts (.fieldLink RX5 10 "LaceRanks" "now" "LLaceRanks$Carnival;") (by decide +kernel)) rfl dX5_mixGuest_132 ?_
            refine lv_iload_n hx hb dX5_mixGuest_135 rfl (lv_at hl 1 rfl) ?_
            refine lv_iload hx hb dX5_mixGuest_136 (lv_at hl 3 rfl) ?_
            obtain ⟨r1, hr1, hf⟩ := bndS hf
            refine q_callVN (rest := [.long x4]) (st1 := [.int r1, .long x4]) [.int x3, .int x6] ⟨hx, hb, hml, hown, hts⟩ (c_X0_nightsUntilAllowed hr1) ⟨va_cnB 2 hts gX5_mixGuest_X0_nightsUntilAllowed_n209 rfl rfl rfl (nw_X5_209 hw.2.2.2.2) (hts (.initialized RX0) (by decide +kernel)) (by decide +kernel) ⟨Nat.le_of_ble_eq_true rfl, Nat.le_of_ble_eq_true rfl⟩, (hts (.instanceMethod yX0_nightsUntilAllowed) (by decide +kernel)), (hts (.selects RX0 yX0_nightsUntilAllowed yX0_nightsUntilAllowed) (by decide +kernel))⟩ hw xa_1 rfl rfl hl.1 rfl (Nat.le_of_ble_eq_true rfl) dX5_mixGuest_138 ⟨Nat.zero_le _, Nat.zero_le _⟩ rfl (fun H locs hw => ?_)
            refine lv_i2l hx hb dX5_mixGuest_141 rfl ?_
            obtain ⟨r2, hr2, hf⟩ := bndS hf
            refine q_callS (rest := []) (st1 := [.long r2]) [.long x4, .long r1.toInt64] ⟨hx, hb, hml, hown, hts⟩ (c_X5_mix hr2) (va_cwS 2 hts gX5_mixGuest_X5_mix rfl rfl rfl (by decide +kernel) ⟨Nat.le_of_ble_eq_true rfl, Nat.le_of_ble_eq_true rfl⟩) hw rfl hl.1 rfl (Nat.le_of_ble_eq_true rfl) dX5_mixGuest_142 ⟨Nat.zero_le _, Nat.zero_le _⟩ rfl (fun H locs hw => ?_)
            refine lv_lstore (lv' := [(4, .long r2), (0, .ref (ad 0)), (3, .int x3), (6, .int x6), (7, .int x7)]) hx hb dX5_mixGuest_145 hl (by decide) rfl (fun ls hl => ?_)
            obtain ⟨v3, hv3, hf⟩ := nmE hf
            refine lv_iinc (v := v3) (lv' := [(6, .int v3), (4, .long r2), (0, .ref (ad 0)), (3, .int x3), (7, .int x7)]) hx hb dX5_mixGuest_147 hl (k := 3) rfl (by rw [hv3]; rfl) (by decide) rfl (fun ls hl => ?_)
            refine lv_goto (tgt := 88) hx hb dX5_mixGuest_150 (by decide) ?_
            exact ih88 x3 r2 v3 H locs ls hf hw (lv_sub hl [2, 3, 1, 0] rfl)
          · have hf := iteF hf hc
            refine lv_lload hx hb dX5_mixGuest_103 (lv_at hl 2 rfl) ?_
            refine lv_aload_n hx hb dX5_mixGuest_105 rfl (lv_at hl 0 rfl) ?_
            refine q_get hx hb hts hiX5 hown hw 0 xa_0 rfl 0 (by decide) (hts (.fieldLink RX5 10 "LaceRanks" "now" "LLaceRanks$Carnival;") (by decide +kernel)) rfl dX5_mixGuest_106 ?_
            refine lv_iload_n hx hb dX5_mixGuest_109 rfl (lv_at hl 1 rfl) ?_
            refine lv_iload hx hb dX5_mixGuest_110 (lv_at hl 3 rfl) ?_
            refine lv_iload hx hb dX5_mixGuest_112 (lv_at hl 4 rfl) ?_
            obtain ⟨r4, hr4, hf⟩ := bndS hf
            refine q_callVN (rest := [.long x4]) (st1 := [.int r4, .long x4]) [.int x3, .int x6, .int x7] ⟨hx, hb, hml, hown, hts⟩ (c_X0_gateNumber hr4) ⟨va_cnB 3 hts gX5_mixGuest_X0_gateNumber_n203 rfl rfl rfl (nw_X5_203 hw.2.2.2.2) (hts (.initialized RX0) (by decide +kernel)) (by decide +kernel) ⟨Nat.le_of_ble_eq_true rfl, Nat.le_of_ble_eq_true rfl⟩, (hts (.instanceMethod yX0_gateNumber) (by decide +kernel)), (hts (.selects RX0 yX0_gateNumber yX0_gateNumber) (by decide +kernel))⟩ hw xa_1 rfl rfl hl.1 rfl (Nat.le_of_ble_eq_true rfl) dX5_mixGuest_114 ⟨Nat.zero_le _, Nat.zero_le _⟩ rfl (fun H locs hw => ?_)
            refine lv_i2l hx hb dX5_mixGuest_117 rfl ?_
            obtain ⟨r5, hr5, hf⟩ := bndS hf
            refine q_callS (rest := []) (st1 := [.long r5]) [.long x4, .long r4.toInt64] ⟨hx, hb, hml, hown, hts⟩ (c_X5_mix hr5) (va_cwS 2 hts gX5_mixGuest_X5_mix rfl rfl rfl (by decide +kernel) ⟨Nat.le_of_ble_eq_true rfl, Nat.le_of_ble_eq_true rfl⟩) hw rfl hl.1 rfl (Nat.le_of_ble_eq_true rfl) dX5_mixGuest_118 ⟨Nat.zero_le _, Nat.zero_le _⟩ rfl (fun H locs hw => ?_)
            refine lv_lstore (lv' := [(4, .long r5), (0, .ref (ad 0)), (3, .int x3), (6, .int x6), (7, .int x7)]) hx hb dX5_mixGuest_121 hl (by decide) rfl (fun ls hl => ?_)
            obtain ⟨v6, hv6, hf⟩ := nmE hf
            refine lv_iinc (v := v6) (lv' := [(7, .int v6), (4, .long r5), (0, .ref (ad 0)), (3, .int x3), (6, .int x6)]) hx hb dX5_mixGuest_123 hl (k := 4) rfl (by rw [hv6]; rfl) (by decide) rfl (fun ls hl => ?_)
            refine lv_goto (tgt := 97) hx hb dX5_mixGuest_126 (by decide) ?_
            exact ih97 x3 r5 x6 v6 H locs ls hf hw (lv_sub hl [2, 3, 1, 4, 0] rfl)
      intro x3 x4 x6 H locs ls hf hw hl
      simp only [f_X5_mixGuest_l88] at hf
      refine lv_iload hx hb dX5_mixGuest_88 (lv_at hl 3 rfl) ?_
      refine lv_iconst (v := 3) hx hb dX5_mixGuest_90 (by decide) ?_
      refine lv_icmp_ge (tgt := 153) hx hb dX5_mixGuest_91 (by decide) (fun hc => ?_) (fun hc => ?_)
      · have hf := iteT hf hc
        refine lv_lload hx hb dX5_mixGuest_153 (lv_at hl 2 rfl) ?_
        cases hf
        exact q_lret hx hb hr hlocks hw dX5_mixGuest_155
      · have hf := iteF hf hc
        refine lv_iconst (v := 0) hx hb dX5_mixGuest_94 (by decide) ?_
        refine lv_istore (lv' := [(7, .int 0), (0, .ref (ad 0)), (3, .int x3), (4, .long x4), (6, .int x6)]) hx hb dX5_mixGuest_95 hl (by decide) rfl (fun ls hl => ?_)
        exact L97 fuelN x3 x4 x6 0 H locs ls hf hw (lv_sub hl [1, 2, 3, 4, 0] rfl)
  have L6 : ∀ (n6 : Nat) (x3 : Int32) (x4 : Int64) (x6 : Int32) (H : Heap) (locs : List Loc) (ls : Array Slot), f_X5_mixGuest_l6 K n6 x3 x4 x6 = some r → WH D cI cR A (xws cI cR ad O K) s H locs → lv_has ls 8 [(0, .ref (ad 0)), (3, .int x3), (4, .long x4), (6, .int x6)] → W p l e (headSpec wsX5_mixGuest ({ frames := 5, cells := 0, slots := 0, locals := 113 })).room s m ([.ref (ad 0), .long a1, .int a3] : List Value).toArray below meth c H locs 0 0 (MQ below (QV (some (.long r)) D A (xws cI cR ad O K)) (([.ref (ad 0), .long a1, .int a3] : List Value)).toArray s 0 0 A) (F0 m 6 ls []) := by
    intro n6
    induction n6 with
    | zero => intro x3 x4 x6 H locs ls hf; cases hf
    | succ n6 ih =>
      have ih6 := ih
      intro x3 x4 x6 H locs ls hf hw hl
      simp only [f_X5_mixGuest_l6] at hf
      refine lv_iload hx hb dX5_mixGuest_6 (lv_at hl 3 rfl) ?_
      refine lv_bipush (v := 11) hx hb dX5_mixGuest_8 (by decide) ?_
      refine lv_icmp_ge (tgt := 37) hx hb dX5_mixGuest_10 (by decide) (fun hc => ?_) (fun hc => ?_)
      · have hf := iteT hf hc
        refine lv_lload hx hb dX5_mixGuest_37 (lv_at hl 2 rfl) ?_
        refine lv_aload_n hx hb dX5_mixGuest_39 rfl (lv_at hl 0 rfl) ?_
        refine q_get hx hb hts hiX5 hown hw 0 xa_0 rfl 0 (by decide) (hts (.fieldLink RX5 10 "LaceRanks" "now" "LLaceRanks$Carnival;") (by decide +kernel)) rfl dX5_mixGuest_40 ?_
        refine lv_iload_n hx hb dX5_mixGuest_43 rfl (lv_at hl 1 rfl) ?_
        obtain ⟨r1, hr1, hf⟩ := bndS hf
        refine q_callVN (rest := [.long x4]) (st1 := [.int r1, .long x4]) [.int x3] ⟨hx, hb, hml, hown, hts⟩ (c_X0_reasonNoMask hr1) ⟨va_cnB 1 hts gX5_mixGuest_X0_reasonNoMask_n103 rfl rfl rfl (nw_X5_103 hw.2.2.2.2) (hts (.initialized RX0) (by decide +kernel)) (by decide +kernel) ⟨Nat.le_of_ble_eq_true rfl, Nat.le_of_ble_eq_true rfl⟩, (hts (.instanceMethod yX0_reasonNoMask) (by decide +kernel)), (hts (.selects RX0 yX0_reasonNoMask yX0_reasonNoMask) (by decide +kernel))⟩ hw xa_1 rfl rfl hl.1 rfl (Nat.le_of_ble_eq_true rfl) dX5_mixGuest_44 ⟨Nat.zero_le _, Nat.zero_le _⟩ rfl (fun H locs hw => ?_)
        refine lv_i2l hx hb dX5_mixGuest_47 rfl ?_
        obtain ⟨r2, hr2, hf⟩ := bndS hf
        refine q_callS (rest := []) (st1 := [.long r2]) [.long x4, .long r1.toInt64] ⟨hx, hb, hml, hown, hts⟩ (c_X5_mix hr2) (va_cwS 2 hts gX5_mixGuest_X5_mix rfl rfl rfl (by decide +kernel) ⟨Nat.le_of_ble_eq_true rfl, Nat.le_of_ble_eq_true rfl⟩) hw rfl hl.1 rfl (Nat.le_of_ble_eq_true rfl) dX5_mixGuest_48 ⟨Nat.zero_le _, Nat.zero_le _⟩ rfl (fun H locs hw => ?_)
        refine lv_lstore (lv' := [(4, .long r2), (0, .ref (ad 0)), (3, .int x3), (6, .int x6)]) hx hb dX5_mixGuest_51 hl (by decide) rfl (fun ls hl => ?_)
        refine lv_lload hx hb dX5_mixGuest_53 (lv_at hl 0 rfl) ?_
        refine lv_aload_n hx hb dX5_mixGuest_55 rfl (lv_at hl 1 rfl) ?_
        refine q_get hx hb hts hiX5 hown hw 0 xa_0 rfl 0 (by decide) (hts (.fieldLink RX5 10 "LaceRanks" "now" "LLaceRanks$Carnival;") (by decide +kernel)) rfl dX5_mixGuest_56 ?_
        refine lv_iload_n hx hb dX5_mixGuest_59 rfl (lv_at hl 2 rfl) ?_
        obtain ⟨r3, hr3, hf⟩ := bndS hf
        refine q_callVN (rest := [.long r2]) (st1 := [.int r3, .long r2]) [.int x3] ⟨hx, hb, hml, hown, hts⟩ (c_X0_reasonNoLine hr3) ⟨va_cnB 1 hts gX5_mixGuest_X0_reasonNoLine_n124 rfl rfl rfl (nw_X5_124 hw.2.2.2.2) (hts (.initialized RX0) (by decide +kernel)) (by decide +kernel) ⟨Nat.le_of_ble_eq_true rfl, Nat.le_of_ble_eq_true rfl⟩, (hts (.instanceMethod yX0_reasonNoLine) (by decide +kernel)), (hts (.selects RX0 yX0_reasonNoLine yX0_reasonNoLine) (by decide +kernel))⟩ hw xa_1 rfl rfl hl.1 rfl (Nat.le_of_ble_eq_true rfl) dX5_mixGuest_60 ⟨Nat.zero_le _, Nat.zero_le _⟩ rfl (fun H locs hw => ?_)
        refine lv_i2l hx hb dX5_mixGuest_63 rfl ?_
        obtain ⟨r4, hr4, hf⟩ := bndS hf
        refine q_callS (rest := []) (st1 := [.long r4]) [.long r2, .long r3.toInt64] ⟨hx, hb, hml, hown, hts⟩ (c_X5_mix hr4) (va_cwS 2 hts gX5_mixGuest_X5_mix rfl rfl rfl (by decide +kernel) ⟨Nat.le_of_ble_eq_true rfl, Nat.le_of_ble_eq_true rfl⟩) hw rfl hl.1 rfl (Nat.le_of_ble_eq_true rfl) dX5_mixGuest_64 ⟨Nat.zero_le _, Nat.zero_le _⟩ rfl (fun H locs hw => ?_)
        refine lv_lstore (lv' := [(4, .long r4), (0, .ref (ad 0)), (3, .int x3), (6, .int x6)]) hx hb dX5_mixGuest_67 hl (by decide) rfl (fun ls hl => ?_)
        refine lv_lload hx hb dX5_mixGuest_69 (lv_at hl 0 rfl) ?_
        refine lv_aload_n hx hb dX5_mixGuest_71 rfl (lv_at hl 1 rfl) ?_
        refine q_get hx hb hts hiX5 hown hw 0 xa_0 rfl 0 (by decide) (hts (.fieldLink RX5 10 "LaceRanks" "now" "LLaceRanks$Carnival;") (by decide +kernel)) rfl dX5_mixGuest_72 ?_
        refine lv_iload_n hx hb dX5_mixGuest_75 rfl (lv_at hl 2 rfl) ?_
        obtain ⟨r5, hr5, hf⟩ := bndS hf
        refine q_callVN (rest := [.long r4]) (st1 := [.int r5, .long r4]) [.int x3] ⟨hx, hb, hml, hown, hts⟩ (c_X0_gateOfFewestElls hr5) ⟨va_cnB 1 hts gX5_mixGuest_X0_gateOfFewestElls_n206 rfl rfl rfl (nw_X5_206 hw.2.2.2.2) (hts (.initialized RX0) (by decide +kernel)) (by decide +kernel) ⟨Nat.le_of_ble_eq_true rfl, Nat.le_of_ble_eq_true rfl⟩, (hts (.instanceMethod yX0_gateOfFewestElls) (by decide +kernel)), (hts (.selects RX0 yX0_gateOfFewestElls yX0_gateOfFewestElls) (by decide +kernel))⟩ hw xa_1 rfl rfl hl.1 rfl (Nat.le_of_ble_eq_true rfl) dX5_mixGuest_76 ⟨Nat.zero_le _, Nat.zero_le _⟩ rfl (fun H locs hw => ?_)
        refine lv_i2l hx hb dX5_mixGuest_79 rfl ?_
        obtain ⟨r6, hr6, hf⟩ := bndS hf
        refine q_callS (rest := []) (st1 := [.long r6]) [.long r4, .long r5.toInt64] ⟨hx, hb, hml, hown, hts⟩ (c_X5_mix hr6) (va_cwS 2 hts gX5_mixGuest_X5_mix rfl rfl rfl (by decide +kernel) ⟨Nat.le_of_ble_eq_true rfl, Nat.le_of_ble_eq_true rfl⟩) hw rfl hl.1 rfl (Nat.le_of_ble_eq_true rfl) dX5_mixGuest_80 ⟨Nat.zero_le _, Nat.zero_le _⟩ rfl (fun H locs hw => ?_)
        refine lv_lstore (lv' := [(4, .long r6), (0, .ref (ad 0)), (3, .int x3), (6, .int x6)]) hx hb dX5_mixGuest_83 hl (by decide) rfl (fun ls hl => ?_)
        refine lv_iconst (v := 0) hx hb dX5_mixGuest_85 (by decide) ?_
        refine lv_istore (lv' := [(6, .int 0), (4, .long r6), (0, .ref (ad 0)), (3, .int x3)]) hx hb dX5_mixGuest_86 hl (by decide) rfl (fun ls hl => ?_)
        exact L88 fuelN x3 r6 0 H locs ls hf hw (lv_sub hl [2, 3, 1, 0] rfl)
      · have hf := iteF hf hc
        refine lv_lload hx hb dX5_mixGuest_13 (lv_at hl 2 rfl) ?_
        refine lv_aload_n hx hb dX5_mixGuest_15 rfl (lv_at hl 0 rfl) ?_
        refine q_get hx hb hts hiX5 hown hw 0 xa_0 rfl 0 (by decide) (hts (.fieldLink RX5 10 "LaceRanks" "now" "LLaceRanks$Carnival;") (by decide +kernel)) rfl dX5_mixGuest_16 ?_
        refine lv_iload_n hx hb dX5_mixGuest_19 rfl (lv_at hl 1 rfl) ?_
        refine lv_iload hx hb dX5_mixGuest_20 (lv_at hl 3 rfl) ?_
        obtain ⟨r7, hr7, hf⟩ := bndS hf
        refine q_callVN (rest := [.long x4]) (st1 := [.int r7, .long x4]) [.int x3, .int x6] ⟨hx, hb, hml, hown, hts⟩ (c_X0_guestNumber hr7) ⟨va_cnB 2 hts gX5_mixGuest_X0_guestNumber_n194 rfl rfl rfl (nw_X5_194 hw.2.2.2.2) (hts (.initialized RX0) (by decide +kernel)) (by decide +kernel) ⟨Nat.le_of_ble_eq_true rfl, Nat.le_of_ble_eq_true rfl⟩, (hts (.instanceMethod yX0_guestNumber) (by decide +kernel)), (hts (.selects RX0 yX0_guestNumber yX0_guestNumber) (by decide +kernel))⟩ hw xa_1 rfl rfl hl.1 rfl (Nat.le_of_ble_eq_true rfl) dX5_mixGuest_22 ⟨Nat.zero_le _, Nat.zero_le _⟩ rfl (fun H locs hw => ?_)
        refine lv_i2l hx hb dX5_mixGuest_25 rfl ?_
        obtain ⟨r8, hr8, hf⟩ := bndS hf
        refine q_callS (rest := []) (st1 := [.long r8]) [.long x4, .long r7.toInt64] ⟨hx, hb, hml, hown, hts⟩ (c_X5_mix hr8) (va_cwS 2 hts gX5_mixGuest_X5_mix rfl rfl rfl (by decide +kernel) ⟨Nat.le_of_ble_eq_true rfl, Nat.le_of_ble_eq_true rfl⟩) hw rfl hl.1 rfl (Nat.le_of_ble_eq_true rfl) dX5_mixGuest_26 ⟨Nat.zero_le _, Nat.zero_le _⟩ rfl (fun H locs hw => ?_)
        refine lv_lstore (lv' := [(4, .long r8), (0, .ref (ad 0)), (3, .int x3), (6, .int x6)]) hx hb dX5_mixGuest_29 hl (by decide) rfl (fun ls hl => ?_)
        obtain ⟨v9, hv9, hf⟩ := nmE hf
        refine lv_iinc (v := v9) (lv' := [(6, .int v9), (4, .long r8), (0, .ref (ad 0)), (3, .int x3)]) hx hb dX5_mixGuest_31 hl (k := 3) rfl (by rw [hv9]; rfl) (by decide) rfl (fun ls hl => ?_)
        refine lv_goto (tgt := 6) hx hb dX5_mixGuest_34 (by decide) ?_
        exact ih6 x3 r8 v9 H locs ls hf hw (lv_sub hl [2, 3, 1, 0] rfl)
  refine lv_lload_n hx hb dX5_mixGuest_0 rfl (lv_at hl 1 rfl) ?_
  refine lv_lstore (lv' := [(4, .long a1), (0, .ref (ad 0)), (1, .long a1), (3, .int a3)]) hx hb dX5_mixGuest_1 hl (by decide) rfl (fun ls hl => ?_)
  refine lv_iconst (v := 0) hx hb dX5_mixGuest_3 (by decide) ?_
  refine lv_istore (lv' := [(6, .int 0), (4, .long a1), (0, .ref (ad 0)), (1, .long a1), (3, .int a3)]) hx hb dX5_mixGuest_4 hl (by decide) rfl (fun ls hl => ?_)
  exact L6 fuelN a3 a1 0 H locs ls hf hw (lv_sub hl [2, 4, 1, 0] rfl)

def f_X5_mixGate_l68  (K : RK)  : Nat → Int32 → Int32 → Int64 → Int32 → Option Int64
  | 0, _, _, _, _ => none
  | n68 + 1, x3, x4, x5, x7 => (if x4 ≤ x7 then some x5 else bnd (f_X3_standingAt K x3 x7) (fun r1 => bnd (f_X5_mix x5 r1.toInt64) (fun r2 => nm (x7 + 1) (fun v3 => (f_X5_mixGate_l68 K n68) x3 x4 r2 v3))))
def f_X5_mixGate_l28  (K : RK)  : Nat → Int32 → Int32 → Int64 → Int32 → Option Int64
  | 0, _, _, _, _ => none
  | n28 + 1, x3, x4, x5, x7 => (if 4 < x7 then f_X5_mixGate_l68 K fuelN x3 x4 x5 0 else bnd (f_X0_allowedElls K x3 x7 (K 11 0)) (fun r1 => bnd (f_X5_mix x5 r1.toInt64) (fun r2 => nm (x7 + 1) (fun v3 => (f_X5_mixGate_l28 K n28) x3 x4 r2 v3))))
def f_X5_mixGate (K : RK)  (a1 : Int64) (a3 : Int32) : Option Int64 := nm (at_ 3 (K 9) a3) (fun r1 => bnd (f_X5_mix a1 r1.toInt64) (fun r2 => f_X5_mixGate_l28 K fuelN a3 r1 r2 0))
set_option maxHeartbeats 4000000 in
set_option maxRecDepth 100000 in
theorem c_X5_mixGate {l : Launch} {D : va_G} {cI cR : ClassId} {ad : Nat → Nat} {A : Nat → Prop} {O : XO} {K : RK}  {a1 : Int64} {a3 : Int32} {r : Int64}  (hf : f_X5_mixGate K a1 a3 = some r) : MC l yX5_mixGate wsX5_mixGate 2 45 D cI cR A [.ref (ad 0), .long a1, .int a3] (xws cI cR ad O K) (some (.long r)) (xws cI cR ad O K) := by
  refine Met.ofW (cc := cX5_mixGate) (maxL := 8) (ret := (some .long)) (by decide) rfl ?_
  intro p e s m args below meth c s₁ B hml hv
  obtain ⟨rfl, hw⟩ := q_start hv
  have hx := B.exec
  have hb := B.bytes
  have hr := B.returns
  have hts := atoms_spec (ws := wsX5_mixGate) B.pre
  have hown : s.vm.findClass RX5 = some m.cls := findClass_of_methodNamed B.named
  have hlocks := B.notSynchronized
  have hiX0 : ∀ w ∈ wsX00, w ∈ wsX5_mixGate := by decide +kernel
  have hiX3 : ∀ w ∈ wsX30, w ∈ wsX5_mixGate := by decide +kernel
  have hiX5 : ∀ w ∈ wsX50, w ∈ wsX5_mixGate := by decide +kernel
  have hl := lv_entry ([.ref (ad 0), .long a1, .int a3]) (n := 8) (Nat.le_of_ble_eq_true rfl)
  rw [lg_entry_eq]
  generalize (lg_sl ([.ref (ad 0), .long a1, .int a3]) ++ List.replicate (8 - (lg_sl ([.ref (ad 0), .long a1, .int a3])).length) Slot.unset).toArray = ls at hl ⊢
  have hl : lv_has ls 8 [(0, .ref (ad 0)), (1, .long a1), (3, .int a3)] := hl
  unfold f_X5_mixGate at hf
  obtain ⟨H, eH⟩ : ∃ H, H = s.heap := ⟨_, rfl⟩
  obtain ⟨locs, eL⟩ : ∃ L : List Loc, L = [] := ⟨_, rfl⟩
  rw [← eH, ← eL] at hw ⊢
  clear eH eL
  have L68 : ∀ (n68 : Nat) (x3 : Int32) (x4 : Int32) (x5 : Int64) (x7 : Int32) (H : Heap) (locs : List Loc) (ls : Array Slot), f_X5_mixGate_l68 K n68 x3 x4 x5 x7 = some r → WH D cI cR A (xws cI cR ad O K) s H locs → lv_has ls 8 [(0, .ref (ad 0)), (3, .int x3), (4, .int x4), (5, .long x5), (7, .int x7)] → W p l e (headSpec wsX5_mixGate ({ frames := 2, cells := 0, slots := 0, locals := 45 })).room s m ([.ref (ad 0), .long a1, .int a3] : List Value).toArray below meth c H locs 0 0 (MQ below (QV (some (.long r)) D A (xws cI cR ad O K)) (([.ref (ad 0), .long a1, .int a3] : List Value)).toArray s 0 0 A) (F0 m 68 ls []) := by
    intro n68
    induction n68 with
    | zero => intro x3 x4 x5 x7 H locs ls hf; cases hf
    | succ n68 ih =>
      have ih68 := ih
      intro x3 x4 x5 x7 H locs ls hf hw hl
      simp only [f_X5_mixGate_l68] at hf
      refine lv_iload hx hb dX5_mixGate_68 (lv_at hl 4 rfl) ?_
      refine lv_iload hx hb dX5_mixGate_70 (lv_at hl 2 rfl) ?_
      refine lv_icmp_ge (tgt := 102) hx hb dX5_mixGate_72 (by decide) (fun hc => ?_) (fun hc => ?_)
      · have hf := iteT hf hc
        refine lv_lload hx hb dX5_mixGate_102 (lv_at hl 3 rfl) ?_
        cases hf
        exact q_lret hx hb hr hlocks hw dX5_mixGate_104
      · have hf := iteF hf hc
        refine lv_lload hx hb dX5_mixGate_75 (lv_at hl 3 rfl) ?_
        refine lv_aload_n hx hb dX5_mixGate_77 rfl (lv_at hl 0 rfl) ?_
        refine q_get hx hb hts hiX5 hown hw 0 xa_0 rfl 0 (by decide) (hts (.fieldLink RX5 10 "LaceRanks" "now" "LLaceRanks$Carnival;") (by decide +kernel)) rfl dX5_mixGate_78 ?_
        refine q_getN hx hb hts hiX0 hown hw 1 xa_1 rfl 1 (by decide) (nw_X5_127 hw.2.2.2.2) rfl dX5_mixGate_81 ?_
        refine lv_iload_n hx hb dX5_mixGate_84 rfl (lv_at hl 1 rfl) ?_
        refine lv_iload hx hb dX5_mixGate_85 (lv_at hl 4 rfl) ?_
        obtain ⟨r1, hr1, hf⟩ := bndS hf
        refine q_callVN (rest := [.long x5]) (st1 := [.int r1, .long x5]) [.int x3, .int x7] ⟨hx, hb, hml, hown, hts⟩ (c_X3_standingAt hr1) ⟨va_cnB 2 hts gX5_mixGate_X3_standingAt_n292 rfl rfl rfl (nw_X5_292 hw.2.2.2.2) (hts (.initialized RX3) (by decide +kernel)) (by decide +kernel) ⟨Nat.le_of_ble_eq_true rfl, Nat.le_of_ble_eq_true rfl⟩, (hts (.instanceMethod yX3_standingAt) (by decide +kernel)), (hts (.selects RX3 yX3_standingAt yX3_standingAt) (by decide +kernel))⟩ hw xa_11 rfl rfl hl.1 rfl (Nat.le_of_ble_eq_true rfl) dX5_mixGate_87 ⟨Nat.zero_le _, Nat.zero_le _⟩ rfl (fun H locs hw => ?_)
        refine lv_i2l hx hb dX5_mixGate_90 rfl ?_
        obtain ⟨r2, hr2, hf⟩ := bndS hf
        refine q_callS (rest := []) (st1 := [.long r2]) [.long x5, .long r1.toInt64] ⟨hx, hb, hml, hown, hts⟩ (c_X5_mix hr2) (va_cwS 2 hts gX5_mixGate_X5_mix rfl rfl rfl (by decide +kernel) ⟨Nat.le_of_ble_eq_true rfl, Nat.le_of_ble_eq_true rfl⟩) hw rfl hl.1 rfl (Nat.le_of_ble_eq_true rfl) dX5_mixGate_91 ⟨Nat.zero_le _, Nat.zero_le _⟩ rfl (fun H locs hw => ?_)
        refine lv_lstore (lv' := [(5, .long r2), (0, .ref (ad 0)), (3, .int x3), (4, .int x4), (7, .int x7)]) hx hb dX5_mixGate_94 hl (by decide) rfl (fun ls hl => ?_)
        obtain ⟨v3, hv3, hf⟩ := nmE hf
        refine lv_iinc (v := v3) (lv' := [(7, .int v3), (5, .long r2), (0, .ref (ad 0)), (3, .int x3), (4, .int x4)]) hx hb dX5_mixGate_96 hl (k := 4) rfl (by rw [hv3]; rfl) (by decide) rfl (fun ls hl => ?_)
        refine lv_goto (tgt := 68) hx hb dX5_mixGate_99 (by decide) ?_
        exact ih68 x3 x4 r2 v3 H locs ls hf hw (lv_sub hl [2, 3, 4, 1, 0] rfl)
  have L28 : ∀ (n28 : Nat) (x3 : Int32) (x4 : Int32) (x5 : Int64) (x7 : Int32) (H : Heap) (locs : List Loc) (ls : Array Slot), f_X5_mixGate_l28 K n28 x3 x4 x5 x7 = some r → WH D cI cR A (xws cI cR ad O K) s H locs → lv_has ls 8 [(0, .ref (ad 0)), (3, .int x3), (4, .int x4), (5, .long x5), (7, .int x7)] → W p l e (headSpec wsX5_mixGate ({ frames := 2, cells := 0, slots := 0, locals := 45 })).room s m ([.ref (ad 0), .long a1, .int a3] : List Value).toArray below meth c H locs 0 0 (MQ below (QV (some (.long r)) D A (xws cI cR ad O K)) (([.ref (ad 0), .long a1, .int a3] : List Value)).toArray s 0 0 A) (F0 m 28 ls []) := by
    intro n28
    induction n28 with
    | zero => intro x3 x4 x5 x7 H locs ls hf; cases hf
    | succ n28 ih =>
      have ih28 := ih
      intro x3 x4 x5 x7 H locs ls hf hw hl
      simp only [f_X5_mixGate_l28] at hf
      refine lv_iload hx hb dX5_mixGate_28 (lv_at hl 4 rfl) ?_
      refine lv_iconst (v := 4) hx hb dX5_mixGate_30 (by decide) ?_
      refine lv_icmp_gt (tgt := 65) hx hb dX5_mixGate_31 (by decide) (fun hc => ?_) (fun hc => ?_)
      · have hf := iteT hf hc
        refine lv_iconst (v := 0) hx hb dX5_mixGate_65 (by decide) ?_
        refine lv_istore (lv' := [(7, .int 0), (0, .ref (ad 0)), (3, .int x3), (4, .int x4), (5, .long x5)]) hx hb dX5_mixGate_66 hl (by decide) rfl (fun ls hl => ?_)
        exact L68 fuelN x3 x4 x5 0 H locs ls hf hw (lv_sub hl [1, 2, 3, 4, 0] rfl)
      · have hf := iteF hf hc
        refine lv_lload hx hb dX5_mixGate_34 (lv_at hl 3 rfl) ?_
        refine lv_aload_n hx hb dX5_mixGate_36 rfl (lv_at hl 0 rfl) ?_
        refine q_get hx hb hts hiX5 hown hw 0 xa_0 rfl 0 (by decide) (hts (.fieldLink RX5 10 "LaceRanks" "now" "LLaceRanks$Carnival;") (by decide +kernel)) rfl dX5_mixGate_37 ?_
        refine lv_iload_n hx hb dX5_mixGate_40 rfl (lv_at hl 1 rfl) ?_
        refine lv_iload hx hb dX5_mixGate_41 (lv_at hl 4 rfl) ?_
        refine lv_aload_n hx hb dX5_mixGate_43 rfl (lv_at hl 0 rfl) ?_
        refine q_get hx hb hts hiX5 hown hw 0 xa_0 rfl 0 (by decide) (hts (.fieldLink RX5 10 "LaceRanks" "now" "LLaceRanks$Carnival;") (by decide +kernel)) rfl dX5_mixGate_44 ?_
        refine q_getN hx hb hts hiX0 hown hw 1 xa_1 rfl 3 (by decide) (nw_X5_191 hw.2.2.2.2) rfl dX5_mixGate_47 ?_
        obtain ⟨r1, hr1, hf⟩ := bndS hf
        refine q_callVN (rest := [.long x5]) (st1 := [.int r1, .long x5]) [.int x3, .int x7, .int (K 11 0)] ⟨hx, hb, hml, hown, hts⟩ (c_X0_allowedElls hr1) ⟨va_cnB 3 hts gX5_mixGate_X0_allowedElls_n197 rfl rfl rfl (nw_X5_197 hw.2.2.2.2) (hts (.initialized RX0) (by decide +kernel)) (by decide +kernel) ⟨Nat.le_of_ble_eq_true rfl, Nat.le_of_ble_eq_true rfl⟩, (hts (.instanceMethod yX0_allowedElls) (by decide +kernel)), (hts (.selects RX0 yX0_allowedElls yX0_allowedElls) (by decide +kernel))⟩ hw xa_1 rfl rfl hl.1 rfl (Nat.le_of_ble_eq_true rfl) dX5_mixGate_50 ⟨Nat.zero_le _, Nat.zero_le _⟩ rfl (fun H locs hw => ?_)
        refine lv_i2l hx hb dX5_mixGate_53 rfl ?_
        obtain ⟨r2, hr2, hf⟩ := bndS hf
        refine q_callS (rest := []) (st1 := [.long r2]) [.long x5, .long r1.toInt64] ⟨hx, hb, hml, hown, hts⟩ (c_X5_mix hr2) (va_cwS 2 hts gX5_mixGate_X5_mix rfl rfl rfl (by decide +kernel) ⟨Nat.le_of_ble_eq_true rfl, Nat.le_of_ble_eq_true rfl⟩) hw rfl hl.1 rfl (Nat.le_of_ble_eq_true rfl) dX5_mixGate_54 ⟨Nat.zero_le _, Nat.zero_le _⟩ rfl (fun H locs hw => ?_)
        refine lv_lstore (lv' := [(5, .long r2), (0, .ref (ad 0)), (3, .int x3), (4, .int x4), (7, .int x7)]) hx hb dX5_mixGate_57 hl (by decide) rfl (fun ls hl => ?_)
        obtain ⟨v3, hv3, hf⟩ := nmE hf
        refine lv_iinc (v := v3) (lv' := [(7, .int v3), (5, .long r2), (0, .ref (ad 0)), (3, .int x3), (4, .int x4)]) hx hb dX5_mixGate_59 hl (k := 4) rfl (by rw [hv3]; rfl) (by decide) rfl (fun ls hl => ?_)
        refine lv_goto (tgt := 28) hx hb dX5_mixGate_62 (by decide) ?_
        exact ih28 x3 x4 r2 v3 H locs ls hf hw (lv_sub hl [2, 3, 4, 1, 0] rfl)
  refine lv_aload_n hx hb dX5_mixGate_0 rfl (lv_at hl 0 rfl) ?_
  refine q_get hx hb hts hiX5 hown hw 0 xa_0 rfl 0 (by decide) (hts (.fieldLink RX5 10 "LaceRanks" "now" "LLaceRanks$Carnival;") (by decide +kernel)) rfl dX5_mixGate_1 ?_
  refine q_getN hx hb hts hiX0 hown hw 1 xa_1 rfl 1 (by decide) (nw_X5_127 hw.2.2.2.2) rfl dX5_mixGate_4 ?_
  refine q_getN hx hb hts hiX3 hown hw 11 xa_11 rfl 1 (by decide) (nw_X5_136 hw.2.2.2.2) rfl dX5_mixGate_7 ?_
  refine lv_iload_n hx hb dX5_mixGate_10 rfl (lv_at hl 2 rfl) ?_
  obtain ⟨r1, hr1, hf⟩ := nmE hf
  refine q_callS (rest := []) (st1 := [.int r1]) [.ref (ad 13), .int a3] ⟨hx, hb, hml, hown, hts⟩ (c_X5_at (q0 := 13) xa_13 hr1) (va_cwS 2 hts gX5_mixGate_X5_at rfl rfl rfl (by decide +kernel) ⟨Nat.le_of_ble_eq_true rfl, Nat.le_of_ble_eq_true rfl⟩) hw rfl hl.1 rfl (Nat.le_of_ble_eq_true rfl) dX5_mixGate_11 ⟨Nat.zero_le _, Nat.zero_le _⟩ rfl (fun H locs hw => ?_)
  refine lv_istore (lv' := [(4, .int r1), (0, .ref (ad 0)), (1, .long a1), (3, .int a3)]) hx hb dX5_mixGate_14 hl (by decide) rfl (fun ls hl => ?_)
  refine lv_lload_n hx hb dX5_mixGate_16 rfl (lv_at hl 2 rfl) ?_
  refine lv_iload hx hb dX5_mixGate_17 (lv_at hl 0 rfl) ?_
  refine lv_i2l hx hb dX5_mixGate_19 rfl ?_
  obtain ⟨r2, hr2, hf⟩ := bndS hf
  refine q_callS (rest := []) (st1 := [.long r2]) [.long a1, .long r1.toInt64] ⟨hx, hb, hml, hown, hts⟩ (c_X5_mix hr2) (va_cwS 2 hts gX5_mixGate_X5_mix rfl rfl rfl (by decide +kernel) ⟨Nat.le_of_ble_eq_true rfl, Nat.le_of_ble_eq_true rfl⟩) hw rfl hl.1 rfl (Nat.le_of_ble_eq_true rfl) dX5_mixGate_20 ⟨Nat.zero_le _, Nat.zero_le _⟩ rfl (fun H locs hw => ?_)
  refine lv_lstore (lv' := [(5, .long r2), (4, .int r1), (0, .ref (ad 0)), (1, .long a1), (3, .int a3)]) hx hb dX5_mixGate_23 hl (by decide) rfl (fun ls hl => ?_)
  refine lv_iconst (v := 0) hx hb dX5_mixGate_25 (by decide) ?_
  refine lv_istore (lv' := [(7, .int 0), (5, .long r2), (4, .int r1), (0, .ref (ad 0)), (1, .long a1), (3, .int a3)]) hx hb dX5_mixGate_26 hl (by decide) rfl (fun ls hl => ?_)
  exact L28 fuelN a3 r1 r2 0 H locs ls hf hw (lv_sub hl [3, 5, 2, 1, 0] rfl)

def f_X5_bitsOf_b50    (x2 : UInt64) (x4 : Int64) : Option Int64 := gd (n64b (FP.dsub x2 FP.dconst1)) (gd (n64b (FP.dmul (FP.dsub x2 FP.dconst1) 4841369599423283200)) (some ((x4 <<< ((52 : Int32).toInt64 &&& 63)) + (FP.d2l (FP.dmul (FP.dsub x2 FP.dconst1) 4841369599423283200)))))
def f_X5_bitsOf_l18    : Nat → UInt64 → Int64 → Int32 → Option Int64
  | 0, _, _, _ => none
  | n18 + 1, x2, x4, x6 => (if 1022 ≤ x6 then f_X5_bitsOf_b50 x2 x4 else (if 0 ≤ (Op.cmpValue (FP.dcmp x2 FP.dconst1) .g) then f_X5_bitsOf_b50 x2 x4 else gd (n64b (FP.dmul x2 4611686018427387904)) (nm (FP.dmul x2 4611686018427387904) (fun v1 => nm (x6 + 1) (fun v2 => (f_X5_bitsOf_l18 n18) v1 (x4 - 1) v2)))))
def f_X5_bitsOf   (a0 : UInt64) : Option Int64 := (if 0 < (Op.cmpValue (FP.dcmp a0 FP.dconst0) .g) then nm ((1023 : Int64)) (fun v1 => f_X5_bitsOf_l18 fuelN a0 v1 0) else some 0)
set_option maxHeartbeats 4000000 in
set_option maxRecDepth 100000 in
theorem c_X5_bitsOf {l : Launch} {D : va_G} {cI cR : ClassId} {A : Nat → Prop} {w : va_W}  {a0 : UInt64} {r : Int64}  (hf : f_X5_bitsOf a0 = some r) : MC l yX5_bitsOf wsX5_bitsOf 0 0 D cI cR A [.double a0] w (some (.long r)) w := by
  refine Met.ofW (cc := cX5_bitsOf) (maxL := 7) (ret := (some .long)) (by decide) rfl ?_
  intro p e s m args below meth c s₁ B hml hv
  obtain ⟨rfl, hw⟩ := q_start hv
  have hx := B.exec
  have hb := B.bytes
  have hr := B.returns
  have hts := atoms_spec (ws := wsX5_bitsOf) B.pre
  have hown : s.vm.findClass RX5 = some m.cls := findClass_of_methodNamed B.named
  have hlocks := B.notSynchronized
  have hl := lv_entry ([.double a0]) (n := 7) (Nat.le_of_ble_eq_true rfl)
  rw [lg_entry_eq]
  generalize (lg_sl ([.double a0]) ++ List.replicate (7 - (lg_sl ([.double a0])).length) Slot.unset).toArray = ls at hl ⊢
  have hl : lv_has ls 7 [(0, .double a0)] := hl
  unfold f_X5_bitsOf at hf
  obtain ⟨H, eH⟩ : ∃ H, H = s.heap := ⟨_, rfl⟩
  obtain ⟨locs, eL⟩ : ∃ L : List Loc, L = [] := ⟨_, rfl⟩
  rw [← eH, ← eL] at hw ⊢
  clear eH eL
  have B50 : ∀ (x2 : UInt64) (x4 : Int64) (H : Heap) (locs : List Loc) (ls : Array Slot), f_X5_bitsOf_b50 x2 x4 = some r → WH D cI cR A w s H locs → lv_has ls 7 [(2, .double x2), (4, .long x4)] → W p l e (headSpec wsX5_bitsOf ({ frames := 0, cells := 0, slots := 0, locals := 0 })).room s m ([.double a0] : List Value).toArray below meth c H locs 0 0 (MQ below (QV (some (.long r)) D A w) (([.double a0] : List Value)).toArray s 0 0 A) (F0 m 50 ls []) := by
    intro x2 x4 H locs ls hf hw hl
    unfold f_X5_bitsOf_b50 at hf
    refine lv_lload hx hb dX5_bitsOf_50 (lv_at hl 1 rfl) ?_
    refine lv_bipush (v := 52) hx hb dX5_bitsOf_52 (by decide) ?_
    refine lv_lshl hx hb dX5_bitsOf_54 rfl ?_
    refine lv_dload_n hx hb dX5_bitsOf_55 rfl (lv_at hl 0 rfl) ?_
    refine lv_dconst1 hx hb dX5_bitsOf_56 ?_
    obtain ⟨hg, hf⟩ := gdE hf
    refine lv_dsub hx hb dX5_bitsOf_57 (n64b_ok hg) ?_
    refine lv_ldc2d (v := 4841369599423283200) hx hb hown (hts (.constantDouble RX5 299 4841369599423283200) (by decide +kernel)) dX5_bitsOf_58 ?_
    obtain ⟨hg, hf⟩ := gdE hf
    refine lv_dmul hx hb dX5_bitsOf_61 (n64b_ok hg) ?_
    refine lv_d2l hx hb dX5_bitsOf_62 ?_
    refine lv_ladd hx hb dX5_bitsOf_63 ?_
    cases hf
    exact q_lret hx hb hr hlocks hw dX5_bitsOf_64
  have L18 : ∀ (n18 : Nat) (x2 : UInt64) (x4 : Int64) (x6 : Int32) (H : Heap) (locs : List Loc) (ls : Array Slot), f_X5_bitsOf_l18 n18 x2 x4 x6 = some r → WH D cI cR A w s H locs → lv_has ls 7 [(2, .double x2), (4, .long x4), (6, .int x6)] → W p l e (headSpec wsX5_bitsOf ({ frames := 0, cells := 0, slots := 0, locals := 0 })).room s m ([.double a0] : List Value).toArray below meth c H locs 0 0 (MQ below (QV (some (.long r)) D A w) (([.double a0] : List Value)).toArray s 0 0 A) (F0 m 18 ls []) := by
    intro n18
    induction n18 with
    | zero => intro x2 x4 x6 H locs ls hf; cases hf
    | succ n18 ih =>
      have ih18 := ih
      intro x2 x4 x6 H locs ls hf hw hl
      simp only [f_X5_bitsOf_l18] at hf
      refine lv_iload hx hb dX5_bitsOf_18 (lv_at hl 2 rfl) ?_
      refine lv_sipush (v := 1022) hx hb dX5_bitsOf_20 (by decide) ?_
      refine lv_icmp_ge (tgt := 50) hx hb dX5_bitsOf_23 (by decide) (fun hc => ?_) (fun hc => ?_)
      · have hf := iteT hf hc
        exact B50 x2 x4 H locs ls hf hw (lv_sub hl [0, 1] rfl)
      · have hf := iteF hf hc
        refine lv_dload_n hx hb dX5_bitsOf_26 rfl (lv_at hl 0 rfl) ?_
        refine lv_dconst1 hx hb dX5_bitsOf_27 ?_
        refine lv_dcmp hx hb dX5_bitsOf_28 ?_
        refine lv_if_ge (tgt := 50) hx hb dX5_bitsOf_29 (by decide) (fun hc => ?_) (fun hc => ?_)
        · have hf := iteT hf hc
          exact B50 x2 x4 H locs ls hf hw (lv_sub hl [0, 1] rfl)
        · have hf := iteF hf hc
          refine lv_dload_n hx hb dX5_bitsOf_32 rfl (lv_at hl 0 rfl) ?_
          refine lv_ldc2d (v := 4611686018427387904) hx hb hown (hts (.constantDouble RX5 297 4611686018427387904) (by decide +kernel)) dX5_bitsOf_33 ?_
          obtain ⟨hg, hf⟩ := gdE hf
          refine lv_dmul hx hb dX5_bitsOf_36 (n64b_ok hg) ?_
          obtain ⟨v1, hv1, hf⟩ := nmE hf
          refine q_isV (congrArg Value.double hv1) ?_
          refine lv_dstore_n (lv' := [(2, .double v1), (4, .long x4), (6, .int x6)]) hx hb dX5_bitsOf_37 rfl hl (by decide) rfl (fun ls hl => ?_)
          refine lv_lload hx hb dX5_bitsOf_38 (lv_at hl 1 rfl) ?_
          refine lv_lconst (v := 1) hx hb dX5_bitsOf_40 (by decide) ?_
          refine lv_lsub hx hb dX5_bitsOf_41 ?_
          refine lv_lstore (lv' := [(4, .long (x4 - 1)), (2, .double v1), (6, .int x6)]) hx hb dX5_bitsOf_42 hl (by decide) rfl (fun ls hl => ?_)
          obtain ⟨v2, hv2, hf⟩ := nmE hf
          refine lv_iinc (v := v2) (lv' := [(6, .int v2), (4, .long (x4 - 1)), (2, .double v1)]) hx hb dX5_bitsOf_44 hl (k := 2) rfl (by rw [hv2]; rfl) (by decide) rfl (fun ls hl => ?_)
          refine lv_goto (tgt := 18) hx hb dX5_bitsOf_47 (by decide) ?_
          exact ih18 v1 (x4 - 1) v2 H locs ls hf hw (lv_sub hl [2, 1, 0] rfl)
  refine lv_dload_n hx hb dX5_bitsOf_0 rfl (lv_at hl 0 rfl) ?_
  refine lv_dconst0 hx hb dX5_bitsOf_1 ?_
  refine lv_dcmp hx hb dX5_bitsOf_2 ?_
  refine lv_if_gt (tgt := 8) hx hb dX5_bitsOf_3 (by decide) (fun hc => ?_) (fun hc => ?_)
  · have hf := iteT hf hc
    refine lv_dload_n hx hb dX5_bitsOf_8 rfl (lv_at hl 0 rfl) ?_
    refine lv_dstore_n (lv' := [(2, .double a0), (0, .double a0)]) hx hb dX5_bitsOf_9 rfl hl (by decide) rfl (fun ls hl => ?_)
    refine lv_ldc2 (v := 1023) hx hb hown (hts (.constantLong RX5 295 1023) (by decide +kernel)) dX5_bitsOf_10 ?_
    obtain ⟨v1, hv1, hf⟩ := nmE hf
    refine q_isV (congrArg Value.long hv1) ?_
    refine lv_lstore (lv' := [(4, .long v1), (2, .double a0), (0, .double a0)]) hx hb dX5_bitsOf_13 hl (by decide) rfl (fun ls hl => ?_)
    refine lv_iconst (v := 0) hx hb dX5_bitsOf_15 (by decide) ?_
    refine lv_istore (lv' := [(6, .int 0), (4, .long v1), (2, .double a0), (0, .double a0)]) hx hb dX5_bitsOf_16 hl (by decide) rfl (fun ls hl => ?_)
    exact L18 fuelN a0 v1 0 H locs ls hf hw (lv_sub hl [2, 1, 0] rfl)
  · have hf := iteF hf hc
    refine lv_lconst (v := 0) hx hb dX5_bitsOf_6 (by decide) ?_
    cases hf
    exact q_lret hx hb hr hlocks hw dX5_bitsOf_7

def f_X5_happenPart_l105  (O : XO)  : Nat → RK → Int32 → Int32 → Int32 → Option (Int32 × RK)
  | 0, _, _, _, _ => none
  | n105 + 1, K, x2, x4, x5 => (if x4 ≤ x5 then some (0, K) else bnd2 (f_X0_openOnce K x2) (fun r1 K2 => nm (x5 + 1) (fun v3 => (f_X5_happenPart_l105 O n105) K2 x2 x4 v3)))
def f_X5_happenPart (O : XO) (K : RK)  (a1 : Int32) : Option (Int32 × RK) := bnd (f_X4_digitAt O (a1 + 1)) (fun r1 => bnd (f_X4_digitAt O (a1 + 3)) (fun r2 => bnd (f_X4_signAt O a1) (fun r3 => (if r3 = 36 then bnd2 (f_X0_tryPaying K r1) (fun r4 K5 => some (r4, K5)) else (if r3 = 108 then bnd2 (f_X0_tryLoan K r1 r2) (fun r6 K7 => some (r6, K7)) else (if r3 = 109 then bnd2 (f_X0_tryMask K r1) (fun r8 K9 => some (r8, K9)) else (if r3 = 111 then bnd (f_X4_timesAt O (a1 + 2)) (fun r10 => f_X5_happenPart_l105 O fuelN K r1 r10 0) else (if r3 = 113 then bnd2 (f_X0_tryLine K r1 r2) (fun r11 K12 => some (r11, K12)) else (bnd2 (f_X0_endNight K) (fun r13 K14 => some (0, K14)))))))))))
set_option maxHeartbeats 4000000 in
set_option maxRecDepth 100000 in
theorem c_X5_happenPart {l : Launch} {D : va_G} {cI cR : ClassId} {ad : Nat → Nat} {A : Nat → Prop} {O : XO} {K : RK} {K' : RK} {a1 : Int32} {r : Int32}  (hf : f_X5_happenPart O K a1 = some (r, K')) : MC l yX5_happenPart wsX5_happenPart 5 113 D cI cR A [.ref (ad 0), .int a1] (xws cI cR ad O K) (some (.int r)) (xws cI cR ad O K') := by
  refine Met.ofW (cc := cX5_happenPart) (maxL := 6) (ret := (some .int)) (by decide) rfl ?_
  intro p e s m args below meth c s₁ B hml hv
  obtain ⟨rfl, hw⟩ := q_start hv
  have hx := B.exec
  have hb := B.bytes
  have hr := B.returns
  have hts := atoms_spec (ws := wsX5_happenPart) B.pre
  have hown : s.vm.findClass RX5 = some m.cls := findClass_of_methodNamed B.named
  have hlocks := B.notSynchronized
  have hiX5 : ∀ w ∈ wsX50, w ∈ wsX5_happenPart := by decide +kernel
  have hl := lv_entry ([.ref (ad 0), .int a1]) (n := 6) (Nat.le_of_ble_eq_true rfl)
  rw [lg_entry_eq]
  generalize (lg_sl ([.ref (ad 0), .int a1]) ++ List.replicate (6 - (lg_sl ([.ref (ad 0), .int a1])).length) Slot.unset).toArray = ls at hl ⊢
  have hl : lv_has ls 6 [(0, .ref (ad 0)), (1, .int a1)] := hl
  unfold f_X5_happenPart at hf
  obtain ⟨H, eH⟩ : ∃ H, H = s.heap := ⟨_, rfl⟩
  obtain ⟨locs, eL⟩ : ∃ L : List Loc, L = [] := ⟨_, rfl⟩
  rw [← eH, ← eL] at hw ⊢
  clear eH eL
  have L105 : ∀ (n105 : Nat) (K : RK) (x2 : Int32) (x4 : Int32) (x5 : Int32) (H : Heap) (locs : List Loc) (ls : Array Slot), f_X5_happenPart_l105 O n105 K x2 x4 x5 = some (r, K') → WH D cI cR A (xws cI cR ad O K) s H locs → lv_has ls 6 [(0, .ref (ad 0)), (2, .int x2), (4, .int x4), (5, .int x5)] → W p l e (headSpec wsX5_happenPart ({ frames := 5, cells := 0, slots := 0, locals := 113 })).room s m ([.ref (ad 0), .int a1] : List Value).toArray below meth c H locs 0 0 (MQ below (QV (some (.int r)) D A (xws cI cR ad O K')) (([.ref (ad 0), .int a1] : List Value)).toArray s 0 0 A) (F0 m 105 ls []) := by
    intro n105
    induction n105 with
    | zero => intro K x2 x4 x5 H locs ls hf; cases hf
    | succ n105 ih =>
      have ih105 := ih
      intro K x2 x4 x5 H locs ls hf hw hl
      simp only [f_X5_happenPart_l105] at hf
      refine lv_iload hx hb dX5_happenPart_105 (lv_at hl 3 rfl) ?_
      refine lv_iload hx hb dX5_happenPart_107 (lv_at hl 2 rfl) ?_
      refine lv_icmp_ge (tgt := 127) hx hb dX5_happenPart_109 (by decide) (fun hc => ?_) (fun hc => ?_)
      · have hf := iteT hf hc
        refine lv_iconst (v := 0) hx hb dX5_happenPart_127 (by decide) ?_
        cases hf
        exact q_iret hx hb hr hlocks hw dX5_happenPart_128
      · have hf := iteF hf hc
        refine lv_aload_n hx hb dX5_happenPart_112 rfl (lv_at hl 0 rfl) ?_
        refine q_get hx hb hts hiX5 hown hw 0 xa_0 rfl 0 (by decide) (hts (.fieldLink RX5 10 "LaceRanks" "now" "LLaceRanks$Carnival;") (by decide +kernel)) rfl dX5_happenPart_113 ?_
        refine lv_iload_n hx hb dX5_happenPart_116 rfl (lv_at hl 1 rfl) ?_
        obtain ⟨r1, K2, hr2, hf⟩ := bnd2S hf
        refine q_callVN (rest := []) (st1 := [.int r1]) [.int x2] ⟨hx, hb, hml, hown, hts⟩ (c_X0_openOnce hr2) ⟨va_cnB 1 hts gX5_happenPart_X0_openOnce_n139 rfl rfl rfl (nw_X5_139 hw.2.2.2.2) (hts (.initialized RX0) (by decide +kernel)) (by decide +kernel) ⟨Nat.le_of_ble_eq_true rfl, Nat.le_of_ble_eq_true rfl⟩, (hts (.instanceMethod yX0_openOnce) (by decide +kernel)), (hts (.selects RX0 yX0_openOnce yX0_openOnce) (by decide +kernel))⟩ hw xa_1 rfl rfl hl.1 rfl (Nat.le_of_ble_eq_true rfl) dX5_happenPart_117 ⟨Nat.zero_le _, Nat.zero_le _⟩ rfl (fun H locs hw => ?_)
        refine lv_pop hx hb dX5_happenPart_120 rfl ?_
        obtain ⟨v3, hv3, hf⟩ := nmE hf
        refine lv_iinc (v := v3) (lv' := [(5, .int v3), (0, .ref (ad 0)), (2, .int x2), (4, .int x4)]) hx hb dX5_happenPart_121 hl (k := 3) rfl (by rw [hv3]; rfl) (by decide) rfl (fun ls hl => ?_)
        refine lv_goto (tgt := 105) hx hb dX5_happenPart_124 (by decide) ?_
        exact ih105 K2 x2 x4 v3 H locs ls hf hw (lv_sub hl [1, 2, 3, 0] rfl)
  refine lv_aload_n hx hb dX5_happenPart_0 rfl (lv_at hl 0 rfl) ?_
  refine q_get hx hb hts hiX5 hown hw 0 xa_0 rfl 3 (by decide) (hts (.fieldLink RX5 29 "LaceRanks" "text" "LLaceRanks$Text;") (by decide +kernel)) rfl dX5_happenPart_1 ?_
  refine lv_iload_n hx hb dX5_happenPart_4 rfl (lv_at hl 1 rfl) ?_
  refine lv_iconst (v := 1) hx hb dX5_happenPart_5 (by decide) ?_
  refine lv_iadd hx hb dX5_happenPart_6 ?_
  obtain ⟨r1, hr1, hf⟩ := bndS hf
  refine q_callVN (rest := []) (st1 := [.int r1]) [.int (a1 + 1)] ⟨hx, hb, hml, hown, hts⟩ (c_X4_digitAt hr1) ⟨va_cnB 1 hts gX5_happenPart_X4_digitAt_n272 rfl rfl rfl (nw_X5_272 hw.2.2.2.2) (hts (.initialized RX4) (by decide +kernel)) (by decide +kernel) ⟨Nat.le_of_ble_eq_true rfl, Nat.le_of_ble_eq_true rfl⟩, (hts (.instanceMethod yX4_digitAt) (by decide +kernel)), (hts (.selects RX4 yX4_digitAt yX4_digitAt) (by decide +kernel))⟩ hw xa_115 rfl rfl hl.1 rfl (Nat.le_of_ble_eq_true rfl) dX5_happenPart_7 ⟨Nat.zero_le _, Nat.zero_le _⟩ rfl (fun H locs hw => ?_)
  refine lv_istore_n (lv' := [(2, .int r1), (0, .ref (ad 0)), (1, .int a1)]) hx hb dX5_happenPart_10 rfl hl (by decide) rfl (fun ls hl => ?_)
  refine lv_aload_n hx hb dX5_happenPart_11 rfl (lv_at hl 1 rfl) ?_
  refine q_get hx hb hts hiX5 hown hw 0 xa_0 rfl 3 (by decide) (hts (.fieldLink RX5 29 "LaceRanks" "text" "LLaceRanks$Text;") (by decide +kernel)) rfl dX5_happenPart_12 ?_
  refine lv_iload_n hx hb dX5_happenPart_15 rfl (lv_at hl 2 rfl) ?_
  refine lv_iconst (v := 3) hx hb dX5_happenPart_16 (by decide) ?_
  refine lv_iadd hx hb dX5_happenPart_17 ?_
  obtain ⟨r2, hr2, hf⟩ := bndS hf
  refine q_callVN (rest := []) (st1 := [.int r2]) [.int (a1 + 3)] ⟨hx, hb, hml, hown, hts⟩ (c_X4_digitAt hr2) ⟨va_cnB 1 hts gX5_happenPart_X4_digitAt_n272 rfl rfl rfl (nw_X5_272 hw.2.2.2.2) (hts (.initialized RX4) (by decide +kernel)) (by decide +kernel) ⟨Nat.le_of_ble_eq_true rfl, Nat.le_of_ble_eq_true rfl⟩, (hts (.instanceMethod yX4_digitAt) (by decide +kernel)), (hts (.selects RX4 yX4_digitAt yX4_digitAt) (by decide +kernel))⟩ hw xa_115 rfl rfl hl.1 rfl (Nat.le_of_ble_eq_true rfl) dX5_happenPart_18 ⟨Nat.zero_le _, Nat.zero_le _⟩ rfl (fun H locs hw => ?_)
  refine lv_istore_n (lv' := [(3, .int r2), (2, .int r1), (0, .ref (ad 0)), (1, .int a1)]) hx hb dX5_happenPart_21 rfl hl (by decide) rfl (fun ls hl => ?_)
  refine lv_aload_n hx hb dX5_happenPart_22 rfl (lv_at hl 2 rfl) ?_
  refine q_get hx hb hts hiX5 hown hw 0 xa_0 rfl 3 (by decide) (hts (.fieldLink RX5 29 "LaceRanks" "text" "LLaceRanks$Text;") (by decide +kernel)) rfl dX5_happenPart_23 ?_
  refine lv_iload_n hx hb dX5_happenPart_26 rfl (lv_at hl 3 rfl) ?_
  obtain ⟨r3, hr3, hf⟩ := bndS hf
  refine q_callVN (rest := []) (st1 := [.int r3]) [.int a1] ⟨hx, hb, hml, hown, hts⟩ (c_X4_signAt hr3) ⟨va_cnB 1 hts gX5_happenPart_X4_signAt_n233 rfl rfl rfl (nw_X5_233 hw.2.2.2.2) (hts (.initialized RX4) (by decide +kernel)) (by decide +kernel) ⟨Nat.le_of_ble_eq_true rfl, Nat.le_of_ble_eq_true rfl⟩, (hts (.instanceMethod yX4_signAt) (by decide +kernel)), (hts (.selects RX4 yX4_signAt yX4_signAt) (by decide +kernel))⟩ hw xa_115 rfl rfl hl.1 rfl (Nat.le_of_ble_eq_true rfl) dX5_happenPart_27 ⟨Nat.zero_le _, Nat.zero_le _⟩ rfl (fun H locs hw => ?_)
  by_cases hc0 : r3 = 36
  · have hf := iteT hf hc0
    refine lv_lookup (tgt := 148) hx hb dX5_happenPart_30 (by decide) (by first | (rw [hc0]; done) | (rw [hc0]; rfl)) (by decide) ?_
    refine lv_aload_n hx hb dX5_happenPart_148 rfl (lv_at hl 2 rfl) ?_
    refine q_get hx hb hts hiX5 hown hw 0 xa_0 rfl 0 (by decide) (hts (.fieldLink RX5 10 "LaceRanks" "now" "LLaceRanks$Carnival;") (by decide +kernel)) rfl dX5_happenPart_149 ?_
    refine lv_iload_n hx hb dX5_happenPart_152 rfl (lv_at hl 1 rfl) ?_
    obtain ⟨r4, K5, hr5, hf⟩ := bnd2S hf
    refine q_callVN (rest := []) (st1 := [.int r4]) [.int r1] ⟨hx, hb, hml, hown, hts⟩ (c_X0_tryPaying hr5) ⟨va_cnB 1 hts gX5_happenPart_X0_tryPaying_n287 rfl rfl rfl (nw_X5_287 hw.2.2.2.2) (hts (.initialized RX0) (by decide +kernel)) (by decide +kernel) ⟨Nat.le_of_ble_eq_true rfl, Nat.le_of_ble_eq_true rfl⟩, (hts (.instanceMethod yX0_tryPaying) (by decide +kernel)), (hts (.selects RX0 yX0_tryPaying yX0_tryPaying) (by decide +kernel))⟩ hw xa_1 rfl rfl hl.1 rfl (Nat.le_of_ble_eq_true rfl) dX5_happenPart_153 ⟨Nat.zero_le _, Nat.zero_le _⟩ rfl (fun H locs hw => ?_)
    cases hf
    exact q_iret hx hb hr hlocks hw dX5_happenPart_156
  replace hf := iteF hf hc0
  by_cases hc1 : r3 = 108
  · have hf := iteT hf hc1
    refine lv_lookup (tgt := 138) hx hb dX5_happenPart_30 (by decide) (by first | (rw [hc1]; done) | (rw [hc1]; rfl)) (by decide) ?_
    refine lv_aload_n hx hb dX5_happenPart_138 rfl (lv_at hl 2 rfl) ?_
    refine q_get hx hb hts hiX5 hown hw 0 xa_0 rfl 0 (by decide) (hts (.fieldLink RX5 10 "LaceRanks" "now" "LLaceRanks$Carnival;") (by decide +kernel)) rfl dX5_happenPart_139 ?_
    refine lv_iload_n hx hb dX5_happenPart_142 rfl (lv_at hl 1 rfl) ?_
    refine lv_iload_n hx hb dX5_happenPart_143 rfl (lv_at hl 0 rfl) ?_
    obtain ⟨r6, K7, hr7, hf⟩ := bnd2S hf
    refine q_callVN (rest := []) (st1 := [.int r6]) [.int r1, .int r2] ⟨hx, hb, hml, hown, hts⟩ (c_X0_tryLoan hr7) ⟨va_cnB 2 hts gX5_happenPart_X0_tryLoan_n284 rfl rfl rfl (nw_X5_284 hw.2.2.2.2) (hts (.initialized RX0) (by decide +kernel)) (by decide +kernel) ⟨Nat.le_of_ble_eq_true rfl, Nat.le_of_ble_eq_true rfl⟩, (hts (.instanceMethod yX0_tryLoan) (by decide +kernel)), (hts (.selects RX0 yX0_tryLoan yX0_tryLoan) (by decide +kernel))⟩ hw xa_1 rfl rfl hl.1 rfl (Nat.le_of_ble_eq_true rfl) dX5_happenPart_144 ⟨Nat.zero_le _, Nat.zero_le _⟩ rfl (fun H locs hw => ?_)
    cases hf
    exact q_iret hx hb hr hlocks hw dX5_happenPart_147
  replace hf := iteF hf hc1
  by_cases hc2 : r3 = 109
  · have hf := iteT hf hc2
    refine lv_lookup (tgt := 129) hx hb dX5_happenPart_30 (by decide) (by first | (rw [hc2]; done) | (rw [hc2]; rfl)) (by decide) ?_
    refine lv_aload_n hx hb dX5_happenPart_129 rfl (lv_at hl 2 rfl) ?_
    refine q_get hx hb hts hiX5 hown hw 0 xa_0 rfl 0 (by decide) (hts (.fieldLink RX5 10 "LaceRanks" "now" "LLaceRanks$Carnival;") (by decide +kernel)) rfl dX5_happenPart_130 ?_
    refine lv_iload_n hx hb dX5_happenPart_133 rfl (lv_at hl 1 rfl) ?_
    obtain ⟨r8, K9, hr9, hf⟩ := bnd2S hf
    refine q_callVN (rest := []) (st1 := [.int r8]) [.int r1] ⟨hx, hb, hml, hown, hts⟩ (c_X0_tryMask hr9) ⟨va_cnB 1 hts gX5_happenPart_X0_tryMask_n281 rfl rfl rfl (nw_X5_281 hw.2.2.2.2) (hts (.initialized RX0) (by decide +kernel)) (by decide +kernel) ⟨Nat.le_of_ble_eq_true rfl, Nat.le_of_ble_eq_true rfl⟩, (hts (.instanceMethod yX0_tryMask) (by decide +kernel)), (hts (.selects RX0 yX0_tryMask yX0_tryMask) (by decide +kernel))⟩ hw xa_1 rfl rfl hl.1 rfl (Nat.le_of_ble_eq_true rfl) dX5_happenPart_134 ⟨Nat.zero_le _, Nat.zero_le _⟩ rfl (fun H locs hw => ?_)
    cases hf
    exact q_iret hx hb hr hlocks hw dX5_happenPart_137
  replace hf := iteF hf hc2
  by_cases hc3 : r3 = 111
  · have hf := iteT hf hc3
    refine lv_lookup (tgt := 90) hx hb dX5_happenPart_30 (by decide) (by first | (rw [hc3]; done) | (rw [hc3]; rfl)) (by decide) ?_
    refine lv_aload_n hx hb dX5_happenPart_90 rfl (lv_at hl 2 rfl) ?_
    refine q_get hx hb hts hiX5 hown hw 0 xa_0 rfl 3 (by decide) (hts (.fieldLink RX5 29 "LaceRanks" "text" "LLaceRanks$Text;") (by decide +kernel)) rfl dX5_happenPart_91 ?_
    refine lv_iload_n hx hb dX5_happenPart_94 rfl (lv_at hl 3 rfl) ?_
    refine lv_iconst (v := 2) hx hb dX5_happenPart_95 (by decide) ?_
    refine lv_iadd hx hb dX5_happenPart_96 ?_
    obtain ⟨r10, hr10, hf⟩ := bndS hf
    refine q_callVN (rest := []) (st1 := [.int r10]) [.int (a1 + 2)] ⟨hx, hb, hml, hown, hts⟩ (c_X4_timesAt hr10) ⟨va_cnB 1 hts gX5_happenPart_X4_timesAt_n278 rfl rfl rfl (nw_X5_278 hw.2.2.2.2) (hts (.initialized RX4) (by decide +kernel)) (by decide +kernel) ⟨Nat.le_of_ble_eq_true rfl, Nat.le_of_ble_eq_true rfl⟩, (hts (.instanceMethod yX4_timesAt) (by decide +kernel)), (hts (.selects RX4 yX4_timesAt yX4_timesAt) (by decide +kernel))⟩ hw xa_115 rfl rfl hl.1 rfl (Nat.le_of_ble_eq_true rfl) dX5_happenPart_97 ⟨Nat.zero_le _, Nat.zero_le _⟩ rfl (fun H locs hw => ?_)
    refine lv_istore (lv' := [(4, .int r10), (3, .int r2), (2, .int r1), (0, .ref (ad 0)), (1, .int a1)]) hx hb dX5_happenPart_100 hl (by decide) rfl (fun ls hl => ?_)
    refine lv_iconst (v := 0) hx hb dX5_happenPart_102 (by decide) ?_
    refine lv_istore (lv' := [(5, .int 0), (4, .int r10), (3, .int r2), (2, .int r1), (0, .ref (ad 0)), (1, .int a1)]) hx hb dX5_happenPart_103 hl (by decide) rfl (fun ls hl => ?_)
    exact L105 fuelN K r1 r10 0 H locs ls hf hw (lv_sub hl [4, 3, 1, 0] rfl)
  replace hf := iteF hf hc3
  by_cases hc4 : r3 = 113
  · have hf := iteT hf hc4
    refine lv_lookup (tgt := 80) hx hb dX5_happenPart_30 (by decide) (by first | (rw [hc4]; done) | (rw [hc4]; rfl)) (by decide) ?_
    refine lv_aload_n hx hb dX5_happenPart_80 rfl (lv_at hl 2 rfl) ?_
    refine q_get hx hb hts hiX5 hown hw 0 xa_0 rfl 0 (by decide) (hts (.fieldLink RX5 10 "LaceRanks" "now" "LLaceRanks$Carnival;") (by decide +kernel)) rfl dX5_happenPart_81 ?_
    refine lv_iload_n hx hb dX5_happenPart_84 rfl (lv_at hl 1 rfl) ?_
    refine lv_iload_n hx hb dX5_happenPart_85 rfl (lv_at hl 0 rfl) ?_
    obtain ⟨r11, K12, hr12, hf⟩ := bnd2S hf
    refine q_callVN (rest := []) (st1 := [.int r11]) [.int r1, .int r2] ⟨hx, hb, hml, hown, hts⟩ (c_X0_tryLine hr12) ⟨va_cnB 2 hts gX5_happenPart_X0_tryLine_n275 rfl rfl rfl (nw_X5_275 hw.2.2.2.2) (hts (.initialized RX0) (by decide +kernel)) (by decide +kernel) ⟨Nat.le_of_ble_eq_true rfl, Nat.le_of_ble_eq_true rfl⟩, (hts (.instanceMethod yX0_tryLine) (by decide +kernel)), (hts (.selects RX0 yX0_tryLine yX0_tryLine) (by decide +kernel))⟩ hw xa_1 rfl rfl hl.1 rfl (Nat.le_of_ble_eq_true rfl) dX5_happenPart_86 ⟨Nat.zero_le _, Nat.zero_le _⟩ rfl (fun H locs hw => ?_)
    cases hf
    exact q_iret hx hb hr hlocks hw dX5_happenPart_89
  replace hf := iteF hf hc4
  refine lv_lookup (tgt := 157) hx hb dX5_happenPart_30 (by decide) (by show Op.lookupswitch.offset [(36, 118), (108, 108), (109, 99), (111, 60), (113, 50)] (127) _ = 127; simp only [Op.lookupswitch.offset, if_neg (ne_toInt' hc0 (k := 36) (by decide)), if_neg (ne_toInt' hc1 (k := 108) (by decide)), if_neg (ne_toInt' hc2 (k := 109) (by decide)), if_neg (ne_toInt' hc3 (k := 111) (by decide)), if_neg (ne_toInt' hc4 (k := 113) (by decide))]) (by decide) ?_
  refine lv_aload_n hx hb dX5_happenPart_157 rfl (lv_at hl 2 rfl) ?_
  refine q_get hx hb hts hiX5 hown hw 0 xa_0 rfl 0 (by decide) (hts (.fieldLink RX5 10 "LaceRanks" "now" "LLaceRanks$Carnival;") (by decide +kernel)) rfl dX5_happenPart_158 ?_
  obtain ⟨r13, K14, hr14, hf⟩ := bnd2S hf
  refine q_callVN (rest := []) (st1 := [.int r13]) [] ⟨hx, hb, hml, hown, hts⟩ (c_X0_endNight hr14) ⟨va_cnB 0 hts gX5_happenPart_X0_endNight_n142 rfl rfl rfl (nw_X5_142 hw.2.2.2.2) (hts (.initialized RX0) (by decide +kernel)) (by decide +kernel) ⟨Nat.le_of_ble_eq_true rfl, Nat.le_of_ble_eq_true rfl⟩, (hts (.instanceMethod yX0_endNight) (by decide +kernel)), (hts (.selects RX0 yX0_endNight yX0_endNight) (by decide +kernel))⟩ hw xa_1 rfl rfl hl.1 rfl (Nat.le_of_ble_eq_true rfl) dX5_happenPart_161 ⟨Nat.zero_le _, Nat.zero_le _⟩ rfl (fun H locs hw => ?_)
  refine lv_pop hx hb dX5_happenPart_164 rfl ?_
  refine lv_iconst (v := 0) hx hb dX5_happenPart_165 (by decide) ?_
  cases hf
  exact q_iret hx hb hr hlocks hw dX5_happenPart_166

def f_X5_firstError (O : XO)   : Option Int32 := bnd (f_X4_firstWrong O) (fun r1 => some r1)
set_option maxHeartbeats 4000000 in
set_option maxRecDepth 100000 in
theorem c_X5_firstError {l : Launch} {D : va_G} {cI cR : ClassId} {ad : Nat → Nat} {A : Nat → Prop} {O : XO} {K : RK}   {r : Int32}  (hf : f_X5_firstError O = some r) : MC l yX5_firstError wsX5_firstError 4 87 D cI cR A [.ref (ad 0)] (xws cI cR ad O K) (some (.int r)) (xws cI cR ad O K) := by
  refine Met.ofW (cc := cX5_firstError) (maxL := 1) (ret := (some .int)) (by decide) rfl ?_
  intro p e s m args below meth c s₁ B hml hv
  obtain ⟨rfl, hw⟩ := q_start hv
  have hx := B.exec
  have hb := B.bytes
  have hr := B.returns
  have hts := atoms_spec (ws := wsX5_firstError) B.pre
  have hown : s.vm.findClass RX5 = some m.cls := findClass_of_methodNamed B.named
  have hlocks := B.notSynchronized
  have hiX5 : ∀ w ∈ wsX50, w ∈ wsX5_firstError := by decide +kernel
  have hl := lv_entry ([.ref (ad 0)]) (n := 1) (Nat.le_of_ble_eq_true rfl)
  rw [lg_entry_eq]
  generalize (lg_sl ([.ref (ad 0)]) ++ List.replicate (1 - (lg_sl ([.ref (ad 0)])).length) Slot.unset).toArray = ls at hl ⊢
  have hl : lv_has ls 1 [(0, .ref (ad 0))] := hl
  unfold f_X5_firstError at hf
  obtain ⟨H, eH⟩ : ∃ H, H = s.heap := ⟨_, rfl⟩
  obtain ⟨locs, eL⟩ : ∃ L : List Loc, L = [] := ⟨_, rfl⟩
  rw [← eH, ← eL] at hw ⊢
  clear eH eL
  refine lv_aload_n hx hb dX5_firstError_0 rfl (lv_at hl 0 rfl) ?_
  refine q_get hx hb hts hiX5 hown hw 0 xa_0 rfl 3 (by decide) (hts (.fieldLink RX5 29 "LaceRanks" "text" "LLaceRanks$Text;") (by decide +kernel)) rfl dX5_firstError_1 ?_
  obtain ⟨r1, hr1, hf⟩ := bndS hf
  refine q_callVN (rest := []) (st1 := [.int r1]) [] ⟨hx, hb, hml, hown, hts⟩ (c_X4_firstWrong hr1) ⟨va_cnB 0 hts gX5_firstError_X4_firstWrong_n165 rfl rfl rfl (nw_X5_165 hw.2.2.2.2) (hts (.initialized RX4) (by decide +kernel)) (by decide +kernel) ⟨Nat.le_of_ble_eq_true rfl, Nat.le_of_ble_eq_true rfl⟩, (hts (.instanceMethod yX4_firstWrong) (by decide +kernel)), (hts (.selects RX4 yX4_firstWrong yX4_firstWrong) (by decide +kernel))⟩ hw xa_115 rfl rfl hl.1 rfl (Nat.le_of_ble_eq_true rfl) dX5_firstError_4 ⟨Nat.zero_le _, Nat.zero_le _⟩ rfl (fun H locs hw => ?_)
  cases hf
  exact q_iret hx hb hr hlocks hw dX5_firstError_7

def f_X5_clearBuffer (O : XO)   : Option (Int32 × XO) := nm (upOS O 0 3 0) (fun O1 => some (O 8 0 3, O1))
set_option maxHeartbeats 4000000 in
set_option maxRecDepth 100000 in
theorem c_X5_clearBuffer {l : Launch} {D : va_G} {cI cR : ClassId} {ad : Nat → Nat} {A : Nat → Prop} {O : XO} {K : RK} {O' : XO}  {r : Int32}  (hf : f_X5_clearBuffer O = some (r, O')) : MC l yX5_clearBuffer wsX5_clearBuffer 0 0 D cI cR A [.ref (ad 0)] (xws cI cR ad O K) (some (.int r)) (xws cI cR ad O' K) := by
  refine Met.ofW (cc := cX5_clearBuffer) (maxL := 2) (ret := (some .int)) (by decide) rfl ?_
  intro p e s m args below meth c s₁ B hml hv
  obtain ⟨rfl, hw⟩ := q_start hv
  have hx := B.exec
  have hb := B.bytes
  have hr := B.returns
  have hts := atoms_spec (ws := wsX5_clearBuffer) B.pre
  have hown : s.vm.findClass RX5 = some m.cls := findClass_of_methodNamed B.named
  have hlocks := B.notSynchronized
  have hiX4 : ∀ w ∈ wsX40, w ∈ wsX5_clearBuffer := by decide +kernel
  have hiX5 : ∀ w ∈ wsX50, w ∈ wsX5_clearBuffer := by decide +kernel
  have hl := lv_entry ([.ref (ad 0)]) (n := 2) (Nat.le_of_ble_eq_true rfl)
  rw [lg_entry_eq]
  generalize (lg_sl ([.ref (ad 0)]) ++ List.replicate (2 - (lg_sl ([.ref (ad 0)])).length) Slot.unset).toArray = ls at hl ⊢
  have hl : lv_has ls 2 [(0, .ref (ad 0))] := hl
  unfold f_X5_clearBuffer at hf
  obtain ⟨H, eH⟩ : ∃ H, H = s.heap := ⟨_, rfl⟩
  obtain ⟨locs, eL⟩ : ∃ L : List Loc, L = [] := ⟨_, rfl⟩
  rw [← eH, ← eL] at hw ⊢
  clear eH eL
  refine lv_aload_n hx hb dX5_clearBuffer_0 rfl (lv_at hl 0 rfl) ?_
  refine q_get hx hb hts hiX5 hown hw 0 xa_0 rfl 3 (by decide) (hts (.fieldLink RX5 29 "LaceRanks" "text" "LLaceRanks$Text;") (by decide +kernel)) rfl dX5_clearBuffer_1 ?_
  refine q_getN hx hb hts hiX4 hown hw 115 xa_115 rfl 1 (by decide) (nw_X5_159 hw.2.2.2.2) rfl dX5_clearBuffer_4 ?_
  refine lv_istore_n (lv' := [(1, .int (O 8 0 3)), (0, .ref (ad 0))]) hx hb dX5_clearBuffer_7 rfl hl (by decide) rfl (fun ls hl => ?_)
  refine lv_aload_n hx hb dX5_clearBuffer_8 rfl (lv_at hl 1 rfl) ?_
  refine q_get hx hb hts hiX5 hown hw 0 xa_0 rfl 3 (by decide) (hts (.fieldLink RX5 29 "LaceRanks" "text" "LLaceRanks$Text;") (by decide +kernel)) rfl dX5_clearBuffer_9 ?_
  refine lv_iconst (v := 0) hx hb dX5_clearBuffer_12 (by decide) ?_
  obtain ⟨O1, hO1, hf⟩ := nmE hf
  refine q_putN (ty := .int) hx hb hts hiX4 tyX4 tyX4_ok nmX4 hown hw 115 xa_115 rfl 1 (by decide) (nw_X5_159 hw.2.2.2.2) rfl (by decide +kernel) rfl rfl (Nat.le_of_ble_eq_true rfl) dX5_clearBuffer_13 (xs_115_1.trans (congrArg (fun z => (xws cI cR ad z K)) hO1.symm)) (fun H locs hw => ?_)
  refine lv_iload_n hx hb dX5_clearBuffer_16 rfl (lv_at hl 0 rfl) ?_
  cases hf
  exact q_iret hx hb hr hlocks hw dX5_clearBuffer_17

def f_X5_decentShare (K : RK)   : Option UInt64 := bnd (f_X0_shareOfDecent K) (fun r1 => some r1)
set_option maxHeartbeats 4000000 in
set_option maxRecDepth 100000 in
theorem c_X5_decentShare {l : Launch} {D : va_G} {cI cR : ClassId} {ad : Nat → Nat} {A : Nat → Prop} {O : XO} {K : RK}   {r : UInt64}  (hf : f_X5_decentShare K = some r) : MC l yX5_decentShare wsX5_decentShare 5 110 D cI cR A [.ref (ad 0)] (xws cI cR ad O K) (some (.double r)) (xws cI cR ad O K) := by
  refine Met.ofW (cc := cX5_decentShare) (maxL := 1) (ret := (some .double)) (by decide) rfl ?_
  intro p e s m args below meth c s₁ B hml hv
  obtain ⟨rfl, hw⟩ := q_start hv
  have hx := B.exec
  have hb := B.bytes
  have hr := B.returns
  have hts := atoms_spec (ws := wsX5_decentShare) B.pre
  have hown : s.vm.findClass RX5 = some m.cls := findClass_of_methodNamed B.named
  have hlocks := B.notSynchronized
  have hiX5 : ∀ w ∈ wsX50, w ∈ wsX5_decentShare := by decide +kernel
  have hl := lv_entry ([.ref (ad 0)]) (n := 1) (Nat.le_of_ble_eq_true rfl)
  rw [lg_entry_eq]
  generalize (lg_sl ([.ref (ad 0)]) ++ List.replicate (1 - (lg_sl ([.ref (ad 0)])).length) Slot.unset).toArray = ls at hl ⊢
  have hl : lv_has ls 1 [(0, .ref (ad 0))] := hl
  unfold f_X5_decentShare at hf
  obtain ⟨H, eH⟩ : ∃ H, H = s.heap := ⟨_, rfl⟩
  obtain ⟨locs, eL⟩ : ∃ L : List Loc, L = [] := ⟨_, rfl⟩
  rw [← eH, ← eL] at hw ⊢
  clear eH eL
  refine lv_aload_n hx hb dX5_decentShare_0 rfl (lv_at hl 0 rfl) ?_
  refine q_get hx hb hts hiX5 hown hw 0 xa_0 rfl 0 (by decide) (hts (.fieldLink RX5 10 "LaceRanks" "now" "LLaceRanks$Carnival;") (by decide +kernel)) rfl dX5_decentShare_1 ?_
  obtain ⟨r1, hr1, hf⟩ := bndS hf
  refine q_callVN (rest := []) (st1 := [.double r1]) [] ⟨hx, hb, hml, hown, hts⟩ (c_X0_shareOfDecent hr1) ⟨va_cnB 0 hts gX5_decentShare_X0_shareOfDecent_n212 rfl rfl rfl (nw_X5_212 hw.2.2.2.2) (hts (.initialized RX0) (by decide +kernel)) (by decide +kernel) ⟨Nat.le_of_ble_eq_true rfl, Nat.le_of_ble_eq_true rfl⟩, (hts (.instanceMethod yX0_shareOfDecent) (by decide +kernel)), (hts (.selects RX0 yX0_shareOfDecent yX0_shareOfDecent) (by decide +kernel))⟩ hw xa_1 rfl rfl hl.1 rfl (Nat.le_of_ble_eq_true rfl) dX5_decentShare_4 ⟨Nat.zero_le _, Nat.zero_le _⟩ rfl (fun H locs hw => ?_)
  cases hf
  exact q_dret hx hb hr hlocks hw dX5_decentShare_7

def f_X5_digest_l136  (O : XO) (K : RK)  : Nat → Int64 → Int32 → Option Int64
  | 0, _, _ => none
  | n136 + 1, x1, x3 => (if (O 8 0 3) ≤ x3 then some x1 else bnd (f_X4_signAt O x3) (fun r1 => bnd (f_X5_mix x1 r1.toInt64) (fun r2 => nm (x3 + 1) (fun v3 => (f_X5_digest_l136 O K n136) r2 v3))))
def f_X5_digest_l60  (O : XO) (K : RK)  : Nat → Int64 → Int32 → Option Int64
  | 0, _, _ => none
  | n60 + 1, x1, x3 => (if 3 ≤ x3 then bnd (f_X0_stopNumber K 0) (fun r1 => bnd (f_X5_mix x1 r1.toInt64) (fun r2 => bnd (f_X0_stopNumber K 1) (fun r3 => bnd (f_X5_mix r2 r3.toInt64) (fun r4 => bnd (f_X0_shareOfDecent K) (fun r5 => bnd (f_X5_bitsOf r5) (fun r6 => bnd (f_X5_mix r4 r6) (fun r7 => bnd (f_X5_mix r7 ((O 8 0 3).toInt64)) (fun r8 => f_X5_digest_l136 O K fuelN r8 0)))))))) else bnd (f_X5_mixGate K x1 x3) (fun r9 => nm (x3 + 1) (fun v10 => (f_X5_digest_l60 O K n60) r9 v10)))
def f_X5_digest_l31  (O : XO) (K : RK)  : Nat → Int64 → Int32 → Option Int64
  | 0, _, _ => none
  | n31 + 1, x1, x3 => (if (K 12 0) ≤ x3 then f_X5_digest_l60 O K fuelN x1 0 else bnd (f_X5_mixGuest K x1 x3) (fun r1 => nm (x3 + 1) (fun v2 => (f_X5_digest_l31 O K n31) r1 v2)))
def f_X5_digest_l6  (O : XO) (K : RK)  : Nat → Int64 → Int32 → Option Int64
  | 0, _, _ => none
  | n6 + 1, x1, x3 => (if 22 ≤ x3 then f_X5_digest_l31 O K fuelN x1 0 else bnd (f_X5_numberOf O K x3) (fun r1 => bnd (f_X5_mix x1 r1.toInt64) (fun r2 => nm (x3 + 1) (fun v3 => (f_X5_digest_l6 O K n6) r2 v3))))
def f_X5_digest (O : XO) (K : RK)   : Option Int64 := nm ((3923 : Int64)) (fun v1 => f_X5_digest_l6 O K fuelN v1 0)
set_option maxHeartbeats 4000000 in
set_option maxRecDepth 100000 in
theorem c_X5_digest {l : Launch} {D : va_G} {cI cR : ClassId} {ad : Nat → Nat} {A : Nat → Prop} {O : XO} {K : RK}   {r : Int64}  (hf : f_X5_digest O K = some r) : MC l yX5_digest wsX5_digest 6 140 D cI cR A [.ref (ad 0)] (xws cI cR ad O K) (some (.long r)) (xws cI cR ad O K) := by
  refine Met.ofW (cc := cX5_digest) (maxL := 4) (ret := (some .long)) (by decide) rfl ?_
  intro p e s m args below meth c s₁ B hml hv
  obtain ⟨rfl, hw⟩ := q_start hv
  have hx := B.exec
  have hb := B.bytes
  have hr := B.returns
  have hts := atoms_spec (ws := wsX5_digest) B.pre
  have hown : s.vm.findClass RX5 = some m.cls := findClass_of_methodNamed B.named
  have hlocks := B.notSynchronized
  have hiX0 : ∀ w ∈ wsX00, w ∈ wsX5_digest := by decide +kernel
  have hiX1 : ∀ w ∈ wsX10, w ∈ wsX5_digest := by decide +kernel
  have hiX4 : ∀ w ∈ wsX40, w ∈ wsX5_digest := by decide +kernel
  have hiX5 : ∀ w ∈ wsX50, w ∈ wsX5_digest := by decide +kernel
  have hl := lv_entry ([.ref (ad 0)]) (n := 4) (Nat.le_of_ble_eq_true rfl)
  rw [lg_entry_eq]
  generalize (lg_sl ([.ref (ad 0)]) ++ List.replicate (4 - (lg_sl ([.ref (ad 0)])).length) Slot.unset).toArray = ls at hl ⊢
  have hl : lv_has ls 4 [(0, .ref (ad 0))] := hl
  unfold f_X5_digest at hf
  obtain ⟨H, eH⟩ : ∃ H, H = s.heap := ⟨_, rfl⟩
  obtain ⟨locs, eL⟩ : ∃ L : List Loc, L = [] := ⟨_, rfl⟩
  rw [← eH, ← eL] at hw ⊢
  clear eH eL
  have L136 : ∀ (n136 : Nat) (x1 : Int64) (x3 : Int32) (H : Heap) (locs : List Loc) (ls : Array Slot), f_X5_digest_l136 O K n136 x1 x3 = some r → WH D cI cR A (xws cI cR ad O K) s H locs → lv_has ls 4 [(0, .ref (ad 0)), (1, .long x1), (3, .int x3)] → W p l e (headSpec wsX5_digest ({ frames := 6, cells := 0, slots := 0, locals := 140 })).room s m ([.ref (ad 0)] : List Value).toArray below meth c H locs 0 0 (MQ below (QV (some (.long r)) D A (xws cI cR ad O K)) (([.ref (ad 0)] : List Value)).toArray s 0 0 A) (F0 m 136 ls []) := by
    intro n136
    induction n136 with
    | zero => intro x1 x3 H locs ls hf; cases hf
    | succ n136 ih =>
      have ih136 := ih
      intro x1 x3 H locs ls hf hw hl
      simp only [f_X5_digest_l136] at hf
      refine lv_iload_n hx hb dX5_digest_136 rfl (lv_at hl 2 rfl) ?_
      refine lv_aload_n hx hb dX5_digest_137 rfl (lv_at hl 0 rfl) ?_
      refine q_get hx hb hts hiX5 hown hw 0 xa_0 rfl 3 (by decide) (hts (.fieldLink RX5 29 "LaceRanks" "text" "LLaceRanks$Text;") (by decide +kernel)) rfl dX5_digest_138 ?_
      refine q_getN hx hb hts hiX4 hown hw 115 xa_115 rfl 1 (by decide) (nw_X5_159 hw.2.2.2.2) rfl dX5_digest_141 ?_
      refine lv_icmp_ge (tgt := 167) hx hb dX5_digest_144 (by decide) (fun hc => ?_) (fun hc => ?_)
      · have hf := iteT hf hc
        refine lv_lload_n hx hb dX5_digest_167 rfl (lv_at hl 1 rfl) ?_
        cases hf
        exact q_lret hx hb hr hlocks hw dX5_digest_168
      · have hf := iteF hf hc
        refine lv_lload_n hx hb dX5_digest_147 rfl (lv_at hl 1 rfl) ?_
        refine lv_aload_n hx hb dX5_digest_148 rfl (lv_at hl 0 rfl) ?_
        refine q_get hx hb hts hiX5 hown hw 0 xa_0 rfl 3 (by decide) (hts (.fieldLink RX5 29 "LaceRanks" "text" "LLaceRanks$Text;") (by decide +kernel)) rfl dX5_digest_149 ?_
        refine lv_iload_n hx hb dX5_digest_152 rfl (lv_at hl 2 rfl) ?_
        obtain ⟨r1, hr1, hf⟩ := bndS hf
        refine q_callVN (rest := [.long x1]) (st1 := [.int r1, .long x1]) [.int x3] ⟨hx, hb, hml, hown, hts⟩ (c_X4_signAt hr1) ⟨va_cnB 1 hts gX5_digest_X4_signAt_n233 rfl rfl rfl (nw_X5_233 hw.2.2.2.2) (hts (.initialized RX4) (by decide +kernel)) (by decide +kernel) ⟨Nat.le_of_ble_eq_true rfl, Nat.le_of_ble_eq_true rfl⟩, (hts (.instanceMethod yX4_signAt) (by decide +kernel)), (hts (.selects RX4 yX4_signAt yX4_signAt) (by decide +kernel))⟩ hw xa_115 rfl rfl hl.1 rfl (Nat.le_of_ble_eq_true rfl) dX5_digest_153 ⟨Nat.zero_le _, Nat.zero_le _⟩ rfl (fun H locs hw => ?_)
        refine lv_i2l hx hb dX5_digest_156 rfl ?_
        obtain ⟨r2, hr2, hf⟩ := bndS hf
        refine q_callS (rest := []) (st1 := [.long r2]) [.long x1, .long r1.toInt64] ⟨hx, hb, hml, hown, hts⟩ (c_X5_mix hr2) (va_cwS 2 hts gX5_digest_X5_mix rfl rfl rfl (by decide +kernel) ⟨Nat.le_of_ble_eq_true rfl, Nat.le_of_ble_eq_true rfl⟩) hw rfl hl.1 rfl (Nat.le_of_ble_eq_true rfl) dX5_digest_157 ⟨Nat.zero_le _, Nat.zero_le _⟩ rfl (fun H locs hw => ?_)
        refine lv_lstore_n (lv' := [(1, .long r2), (0, .ref (ad 0)), (3, .int x3)]) hx hb dX5_digest_160 rfl hl (by decide) rfl (fun ls hl => ?_)
        obtain ⟨v3, hv3, hf⟩ := nmE hf
        refine lv_iinc (v := v3) (lv' := [(3, .int v3), (1, .long r2), (0, .ref (ad 0))]) hx hb dX5_digest_161 hl (k := 2) rfl (by rw [hv3]; rfl) (by decide) rfl (fun ls hl => ?_)
        refine lv_goto (tgt := 136) hx hb dX5_digest_164 (by decide) ?_
        exact ih136 r2 v3 H locs ls hf hw (lv_sub hl [2, 1, 0] rfl)
  have L60 : ∀ (n60 : Nat) (x1 : Int64) (x3 : Int32) (H : Heap) (locs : List Loc) (ls : Array Slot), f_X5_digest_l60 O K n60 x1 x3 = some r → WH D cI cR A (xws cI cR ad O K) s H locs → lv_has ls 4 [(0, .ref (ad 0)), (1, .long x1), (3, .int x3)] → W p l e (headSpec wsX5_digest ({ frames := 6, cells := 0, slots := 0, locals := 140 })).room s m ([.ref (ad 0)] : List Value).toArray below meth c H locs 0 0 (MQ below (QV (some (.long r)) D A (xws cI cR ad O K)) (([.ref (ad 0)] : List Value)).toArray s 0 0 A) (F0 m 60 ls []) := by
    intro n60
    induction n60 with
    | zero => intro x1 x3 H locs ls hf; cases hf
    | succ n60 ih =>
      have ih60 := ih
      intro x1 x3 H locs ls hf hw hl
      simp only [f_X5_digest_l60] at hf
      refine lv_iload_n hx hb dX5_digest_60 rfl (lv_at hl 2 rfl) ?_
      refine lv_iconst (v := 3) hx hb dX5_digest_61 (by decide) ?_
      refine lv_icmp_ge (tgt := 78) hx hb dX5_digest_62 (by decide) (fun hc => ?_) (fun hc => ?_)
      · have hf := iteT hf hc
        refine lv_lload_n hx hb dX5_digest_78 rfl (lv_at hl 1 rfl) ?_
        refine lv_aload_n hx hb dX5_digest_79 rfl (lv_at hl 0 rfl) ?_
        refine q_get hx hb hts hiX5 hown hw 0 xa_0 rfl 0 (by decide) (hts (.fieldLink RX5 10 "LaceRanks" "now" "LLaceRanks$Carnival;") (by decide +kernel)) rfl dX5_digest_80 ?_
        refine lv_iconst (v := 0) hx hb dX5_digest_83 (by decide) ?_
        obtain ⟨r1, hr1, hf⟩ := bndS hf
        refine q_callVN (rest := [.long x1]) (st1 := [.int r1, .long x1]) [.int 0] ⟨hx, hb, hml, hown, hts⟩ (c_X0_stopNumber hr1) ⟨va_cnB 1 hts gX5_digest_X0_stopNumber_n181 rfl rfl rfl (nw_X5_181 hw.2.2.2.2) (hts (.initialized RX0) (by decide +kernel)) (by decide +kernel) ⟨Nat.le_of_ble_eq_true rfl, Nat.le_of_ble_eq_true rfl⟩, (hts (.instanceMethod yX0_stopNumber) (by decide +kernel)), (hts (.selects RX0 yX0_stopNumber yX0_stopNumber) (by decide +kernel))⟩ hw xa_1 rfl rfl hl.1 rfl (Nat.le_of_ble_eq_true rfl) dX5_digest_84 ⟨Nat.zero_le _, Nat.zero_le _⟩ rfl (fun H locs hw => ?_)
        refine lv_i2l hx hb dX5_digest_87 rfl ?_
        obtain ⟨r2, hr2, hf⟩ := bndS hf
        refine q_callS (rest := []) (st1 := [.long r2]) [.long x1, .long r1.toInt64] ⟨hx, hb, hml, hown, hts⟩ (c_X5_mix hr2) (va_cwS 2 hts gX5_digest_X5_mix rfl rfl rfl (by decide +kernel) ⟨Nat.le_of_ble_eq_true rfl, Nat.le_of_ble_eq_true rfl⟩) hw rfl hl.1 rfl (Nat.le_of_ble_eq_true rfl) dX5_digest_88 ⟨Nat.zero_le _, Nat.zero_le _⟩ rfl (fun H locs hw => ?_)
        refine lv_lstore_n (lv' := [(1, .long r2), (0, .ref (ad 0)), (3, .int x3)]) hx hb dX5_digest_91 rfl hl (by decide) rfl (fun ls hl => ?_)
        refine lv_lload_n hx hb dX5_digest_92 rfl (lv_at hl 0 rfl) ?_
        refine lv_aload_n hx hb dX5_digest_93 rfl (lv_at hl 1 rfl) ?_
        refine q_get hx hb hts hiX5 hown hw 0 xa_0 rfl 0 (by decide) (hts (.fieldLink RX5 10 "LaceRanks" "now" "LLaceRanks$Carnival;") (by decide +kernel)) rfl dX5_digest_94 ?_
        refine lv_iconst (v := 1) hx hb dX5_digest_97 (by decide) ?_
        obtain ⟨r3, hr3, hf⟩ := bndS hf
        refine q_callVN (rest := [.long r2]) (st1 := [.int r3, .long r2]) [.int 1] ⟨hx, hb, hml, hown, hts⟩ (c_X0_stopNumber hr3) ⟨va_cnB 1 hts gX5_digest_X0_stopNumber_n181 rfl rfl rfl (nw_X5_181 hw.2.2.2.2) (hts (.initialized RX0) (by decide +kernel)) (by decide +kernel) ⟨Nat.le_of_ble_eq_true rfl, Nat.le_of_ble_eq_true rfl⟩, (hts (.instanceMethod yX0_stopNumber) (by decide +kernel)), (hts (.selects RX0 yX0_stopNumber yX0_stopNumber) (by decide +kernel))⟩ hw xa_1 rfl rfl hl.1 rfl (Nat.le_of_ble_eq_true rfl) dX5_digest_98 ⟨Nat.zero_le _, Nat.zero_le _⟩ rfl (fun H locs hw => ?_)
        refine lv_i2l hx hb dX5_digest_101 rfl ?_
        obtain ⟨r4, hr4, hf⟩ := bndS hf
        refine q_callS (rest := []) (st1 := [.long r4]) [.long r2, .long r3.toInt64] ⟨hx, hb, hml, hown, hts⟩ (c_X5_mix hr4) (va_cwS 2 hts gX5_digest_X5_mix rfl rfl rfl (by decide +kernel) ⟨Nat.le_of_ble_eq_true rfl, Nat.le_of_ble_eq_true rfl⟩) hw rfl hl.1 rfl (Nat.le_of_ble_eq_true rfl) dX5_digest_102 ⟨Nat.zero_le _, Nat.zero_le _⟩ rfl (fun H locs hw => ?_)
        refine lv_lstore_n (lv' := [(1, .long r4), (0, .ref (ad 0)), (3, .int x3)]) hx hb dX5_digest_105 rfl hl (by decide) rfl (fun ls hl => ?_)
        refine lv_lload_n hx hb dX5_digest_106 rfl (lv_at hl 0 rfl) ?_
        refine lv_aload_n hx hb dX5_digest_107 rfl (lv_at hl 1 rfl) ?_
        refine q_get hx hb hts hiX5 hown hw 0 xa_0 rfl 0 (by decide) (hts (.fieldLink RX5 10 "LaceRanks" "now" "LLaceRanks$Carnival;") (by decide +kernel)) rfl dX5_digest_108 ?_
        obtain ⟨r5, hr5, hf⟩ := bndS hf
        refine q_callVN (rest := [.long r4]) (st1 := [.double r5, .long r4]) [] ⟨hx, hb, hml, hown, hts⟩ (c_X0_shareOfDecent hr5) ⟨va_cnB 0 hts gX5_digest_X0_shareOfDecent_n212 rfl rfl rfl (nw_X5_212 hw.2.2.2.2) (hts (.initialized RX0) (by decide +kernel)) (by decide +kernel) ⟨Nat.le_of_ble_eq_true rfl, Nat.le_of_ble_eq_true rfl⟩, (hts (.instanceMethod yX0_shareOfDecent) (by decide +kernel)), (hts (.selects RX0 yX0_shareOfDecent yX0_shareOfDecent) (by decide +kernel))⟩ hw xa_1 rfl rfl hl.1 rfl (Nat.le_of_ble_eq_true rfl) dX5_digest_111 ⟨Nat.zero_le _, Nat.zero_le _⟩ rfl (fun H locs hw => ?_)
        obtain ⟨r6, hr6, hf⟩ := bndS hf
        refine q_callS (rest := [.long r4]) (st1 := [.long r6, .long r4]) [.double r5] ⟨hx, hb, hml, hown, hts⟩ (c_X5_bitsOf hr6) (va_cwS 1 hts gX5_digest_X5_bitsOf rfl rfl rfl (by decide +kernel) ⟨Nat.le_of_ble_eq_true rfl, Nat.le_of_ble_eq_true rfl⟩) hw rfl hl.1 rfl (Nat.le_of_ble_eq_true rfl) dX5_digest_114 ⟨Nat.zero_le _, Nat.zero_le _⟩ rfl (fun H locs hw => ?_)
        obtain ⟨r7, hr7, hf⟩ := bndS hf
        refine q_callS (rest := []) (st1 := [.long r7]) [.long r4, .long r6] ⟨hx, hb, hml, hown, hts⟩ (c_X5_mix hr7) (va_cwS 2 hts gX5_digest_X5_mix rfl rfl rfl (by decide +kernel) ⟨Nat.le_of_ble_eq_true rfl, Nat.le_of_ble_eq_true rfl⟩) hw rfl hl.1 rfl (Nat.le_of_ble_eq_true rfl) dX5_digest_117 ⟨Nat.zero_le _, Nat.zero_le _⟩ rfl (fun H locs hw => ?_)
        refine lv_lstore_n (lv' := [(1, .long r7), (0, .ref (ad 0)), (3, .int x3)]) hx hb dX5_digest_120 rfl hl (by decide) rfl (fun ls hl => ?_)
        refine lv_lload_n hx hb dX5_digest_121 rfl (lv_at hl 0 rfl) ?_
        refine lv_aload_n hx hb dX5_digest_122 rfl (lv_at hl 1 rfl) ?_
        refine q_get hx hb hts hiX5 hown hw 0 xa_0 rfl 3 (by decide) (hts (.fieldLink RX5 29 "LaceRanks" "text" "LLaceRanks$Text;") (by decide +kernel)) rfl dX5_digest_123 ?_
        refine q_getN hx hb hts hiX4 hown hw 115 xa_115 rfl 1 (by decide) (nw_X5_159 hw.2.2.2.2) rfl dX5_digest_126 ?_
        refine lv_i2l hx hb dX5_digest_129 rfl ?_
        obtain ⟨r8, hr8, hf⟩ := bndS hf
        refine q_callS (rest := []) (st1 := [.long r8]) [.long r7, .long ((O 8 0 3).toInt64)] ⟨hx, hb, hml, hown, hts⟩ (c_X5_mix hr8) (va_cwS 2 hts gX5_digest_X5_mix rfl rfl rfl (by decide +kernel) ⟨Nat.le_of_ble_eq_true rfl, Nat.le_of_ble_eq_true rfl⟩) hw rfl hl.1 rfl (Nat.le_of_ble_eq_true rfl) dX5_digest_130 ⟨Nat.zero_le _, Nat.zero_le _⟩ rfl (fun H locs hw => ?_)
        refine lv_lstore_n (lv' := [(1, .long r8), (0, .ref (ad 0)), (3, .int x3)]) hx hb dX5_digest_133 rfl hl (by decide) rfl (fun ls hl => ?_)
        refine lv_iconst (v := 0) hx hb dX5_digest_134 (by decide) ?_
        refine lv_istore_n (lv' := [(3, .int 0), (1, .long r8), (0, .ref (ad 0))]) hx hb dX5_digest_135 rfl hl (by decide) rfl (fun ls hl => ?_)
        exact L136 fuelN r8 0 H locs ls hf hw (lv_sub hl [2, 1, 0] rfl)
      · have hf := iteF hf hc
        refine lv_aload_n hx hb dX5_digest_65 rfl (lv_at hl 0 rfl) ?_
        refine lv_lload_n hx hb dX5_digest_66 rfl (lv_at hl 1 rfl) ?_
        refine lv_iload_n hx hb dX5_digest_67 rfl (lv_at hl 2 rfl) ?_
        obtain ⟨r9, hr9, hf⟩ := bndS hf
        refine q_callV (rest := []) (st1 := [.long r9]) [.long x1, .int x3] ⟨hx, hb, hml, hown, hts⟩ (c_X5_mixGate hr9) (cwV 2 hts gX5_digest_X5_mixGate rfl rfl rfl (by decide +kernel) ⟨Nat.le_of_ble_eq_true rfl, Nat.le_of_ble_eq_true rfl⟩) hw xa_0 rfl rfl hl.1 rfl (Nat.le_of_ble_eq_true rfl) dX5_digest_68 ⟨Nat.zero_le _, Nat.zero_le _⟩ rfl (fun H locs hw => ?_)
        refine lv_lstore_n (lv' := [(1, .long r9), (0, .ref (ad 0)), (3, .int x3)]) hx hb dX5_digest_71 rfl hl (by decide) rfl (fun ls hl => ?_)
        obtain ⟨v10, hv10, hf⟩ := nmE hf
        refine lv_iinc (v := v10) (lv' := [(3, .int v10), (1, .long r9), (0, .ref (ad 0))]) hx hb dX5_digest_72 hl (k := 2) rfl (by rw [hv10]; rfl) (by decide) rfl (fun ls hl => ?_)
        refine lv_goto (tgt := 60) hx hb dX5_digest_75 (by decide) ?_
        exact ih60 r9 v10 H locs ls hf hw (lv_sub hl [2, 1, 0] rfl)
  have L31 : ∀ (n31 : Nat) (x1 : Int64) (x3 : Int32) (H : Heap) (locs : List Loc) (ls : Array Slot), f_X5_digest_l31 O K n31 x1 x3 = some r → WH D cI cR A (xws cI cR ad O K) s H locs → lv_has ls 4 [(0, .ref (ad 0)), (1, .long x1), (3, .int x3)] → W p l e (headSpec wsX5_digest ({ frames := 6, cells := 0, slots := 0, locals := 140 })).room s m ([.ref (ad 0)] : List Value).toArray below meth c H locs 0 0 (MQ below (QV (some (.long r)) D A (xws cI cR ad O K)) (([.ref (ad 0)] : List Value)).toArray s 0 0 A) (F0 m 31 ls []) := by
    intro n31
    induction n31 with
    | zero => intro x1 x3 H locs ls hf; cases hf
    | succ n31 ih =>
      have ih31 := ih
      intro x1 x3 H locs ls hf hw hl
      simp only [f_X5_digest_l31] at hf
      refine lv_iload_n hx hb dX5_digest_31 rfl (lv_at hl 2 rfl) ?_
      refine lv_aload_n hx hb dX5_digest_32 rfl (lv_at hl 0 rfl) ?_
      refine q_get hx hb hts hiX5 hown hw 0 xa_0 rfl 0 (by decide) (hts (.fieldLink RX5 10 "LaceRanks" "now" "LLaceRanks$Carnival;") (by decide +kernel)) rfl dX5_digest_33 ?_
      refine q_getN hx hb hts hiX0 hown hw 1 xa_1 rfl 0 (by decide) (nw_X5_45 hw.2.2.2.2) rfl dX5_digest_36 ?_
      refine q_getN hx hb hts hiX1 hown hw 2 xa_2 rfl 8 (by decide) (nw_X5_49 hw.2.2.2.2) rfl dX5_digest_39 ?_
      refine lv_icmp_ge (tgt := 58) hx hb dX5_digest_42 (by decide) (fun hc => ?_) (fun hc => ?_)
      · have hf := iteT hf hc
        refine lv_iconst (v := 0) hx hb dX5_digest_58 (by decide) ?_
        refine lv_istore_n (lv' := [(3, .int 0), (0, .ref (ad 0)), (1, .long x1)]) hx hb dX5_digest_59 rfl hl (by decide) rfl (fun ls hl => ?_)
        exact L60 fuelN x1 0 H locs ls hf hw (lv_sub hl [1, 2, 0] rfl)
      · have hf := iteF hf hc
        refine lv_aload_n hx hb dX5_digest_45 rfl (lv_at hl 0 rfl) ?_
        refine lv_lload_n hx hb dX5_digest_46 rfl (lv_at hl 1 rfl) ?_
        refine lv_iload_n hx hb dX5_digest_47 rfl (lv_at hl 2 rfl) ?_
        obtain ⟨r1, hr1, hf⟩ := bndS hf
        refine q_callV (rest := []) (st1 := [.long r1]) [.long x1, .int x3] ⟨hx, hb, hml, hown, hts⟩ (c_X5_mixGuest hr1) (cwV 2 hts gX5_digest_X5_mixGuest rfl rfl rfl (by decide +kernel) ⟨Nat.le_of_ble_eq_true rfl, Nat.le_of_ble_eq_true rfl⟩) hw xa_0 rfl rfl hl.1 rfl (Nat.le_of_ble_eq_true rfl) dX5_digest_48 ⟨Nat.zero_le _, Nat.zero_le _⟩ rfl (fun H locs hw => ?_)
        refine lv_lstore_n (lv' := [(1, .long r1), (0, .ref (ad 0)), (3, .int x3)]) hx hb dX5_digest_51 rfl hl (by decide) rfl (fun ls hl => ?_)
        obtain ⟨v2, hv2, hf⟩ := nmE hf
        refine lv_iinc (v := v2) (lv' := [(3, .int v2), (1, .long r1), (0, .ref (ad 0))]) hx hb dX5_digest_52 hl (k := 2) rfl (by rw [hv2]; rfl) (by decide) rfl (fun ls hl => ?_)
        refine lv_goto (tgt := 31) hx hb dX5_digest_55 (by decide) ?_
        exact ih31 r1 v2 H locs ls hf hw (lv_sub hl [2, 1, 0] rfl)
  have L6 : ∀ (n6 : Nat) (x1 : Int64) (x3 : Int32) (H : Heap) (locs : List Loc) (ls : Array Slot), f_X5_digest_l6 O K n6 x1 x3 = some r → WH D cI cR A (xws cI cR ad O K) s H locs → lv_has ls 4 [(0, .ref (ad 0)), (1, .long x1), (3, .int x3)] → W p l e (headSpec wsX5_digest ({ frames := 6, cells := 0, slots := 0, locals := 140 })).room s m ([.ref (ad 0)] : List Value).toArray below meth c H locs 0 0 (MQ below (QV (some (.long r)) D A (xws cI cR ad O K)) (([.ref (ad 0)] : List Value)).toArray s 0 0 A) (F0 m 6 ls []) := by
    intro n6
    induction n6 with
    | zero => intro x1 x3 H locs ls hf; cases hf
    | succ n6 ih =>
      have ih6 := ih
      intro x1 x3 H locs ls hf hw hl
      simp only [f_X5_digest_l6] at hf
      refine lv_iload_n hx hb dX5_digest_6 rfl (lv_at hl 2 rfl) ?_
      refine lv_bipush (v := 22) hx hb dX5_digest_7 (by decide) ?_
      refine lv_icmp_ge (tgt := 29) hx hb dX5_digest_9 (by decide) (fun hc => ?_) (fun hc => ?_)
      · have hf := iteT hf hc
        refine lv_iconst (v := 0) hx hb dX5_digest_29 (by decide) ?_
        refine lv_istore_n (lv' := [(3, .int 0), (0, .ref (ad 0)), (1, .long x1)]) hx hb dX5_digest_30 rfl hl (by decide) rfl (fun ls hl => ?_)
        exact L31 fuelN x1 0 H locs ls hf hw (lv_sub hl [1, 2, 0] rfl)
      · have hf := iteF hf hc
        refine lv_lload_n hx hb dX5_digest_12 rfl (lv_at hl 1 rfl) ?_
        refine lv_aload_n hx hb dX5_digest_13 rfl (lv_at hl 0 rfl) ?_
        refine lv_iload_n hx hb dX5_digest_14 rfl (lv_at hl 2 rfl) ?_
        obtain ⟨r1, hr1, hf⟩ := bndS hf
        refine q_callV (rest := [.long x1]) (st1 := [.int r1, .long x1]) [.int x3] ⟨hx, hb, hml, hown, hts⟩ (c_X5_numberOf hr1) (cwV 1 hts gX5_digest_X5_numberOf rfl rfl rfl (by decide +kernel) ⟨Nat.le_of_ble_eq_true rfl, Nat.le_of_ble_eq_true rfl⟩) hw xa_0 rfl rfl hl.1 rfl (Nat.le_of_ble_eq_true rfl) dX5_digest_15 ⟨Nat.zero_le _, Nat.zero_le _⟩ rfl (fun H locs hw => ?_)
        refine lv_i2l hx hb dX5_digest_18 rfl ?_
        obtain ⟨r2, hr2, hf⟩ := bndS hf
        refine q_callS (rest := []) (st1 := [.long r2]) [.long x1, .long r1.toInt64] ⟨hx, hb, hml, hown, hts⟩ (c_X5_mix hr2) (va_cwS 2 hts gX5_digest_X5_mix rfl rfl rfl (by decide +kernel) ⟨Nat.le_of_ble_eq_true rfl, Nat.le_of_ble_eq_true rfl⟩) hw rfl hl.1 rfl (Nat.le_of_ble_eq_true rfl) dX5_digest_19 ⟨Nat.zero_le _, Nat.zero_le _⟩ rfl (fun H locs hw => ?_)
        refine lv_lstore_n (lv' := [(1, .long r2), (0, .ref (ad 0)), (3, .int x3)]) hx hb dX5_digest_22 rfl hl (by decide) rfl (fun ls hl => ?_)
        obtain ⟨v3, hv3, hf⟩ := nmE hf
        refine lv_iinc (v := v3) (lv' := [(3, .int v3), (1, .long r2), (0, .ref (ad 0))]) hx hb dX5_digest_23 hl (k := 2) rfl (by rw [hv3]; rfl) (by decide) rfl (fun ls hl => ?_)
        refine lv_goto (tgt := 6) hx hb dX5_digest_26 (by decide) ?_
        exact ih6 r2 v3 H locs ls hf hw (lv_sub hl [2, 1, 0] rfl)
  refine lv_ldc2 (v := 3923) hx hb hown (hts (.constantLong RX5 216 3923) (by decide +kernel)) dX5_digest_0 ?_
  obtain ⟨v1, hv1, hf⟩ := nmE hf
  refine q_isV (congrArg Value.long hv1) ?_
  refine lv_lstore_n (lv' := [(1, .long v1), (0, .ref (ad 0))]) hx hb dX5_digest_3 rfl hl (by decide) rfl (fun ls hl => ?_)
  refine lv_iconst (v := 0) hx hb dX5_digest_4 (by decide) ?_
  refine lv_istore_n (lv' := [(3, .int 0), (1, .long v1), (0, .ref (ad 0))]) hx hb dX5_digest_5 rfl hl (by decide) rfl (fun ls hl => ?_)
  exact L6 fuelN v1 0 H locs ls hf hw (lv_sub hl [2, 1, 0] rfl)
