def f_L_looks_l33  (O : XO) (K : RK)  : Nat → Int64 → Int32 → Option Int64
  | 0, _, _ => none
  | n33 + 1, x1, x3 => bnd (f_X5_count O K 1) (fun r1 => (if (11 * r1) ≤ x3 then some x1 else bnd (f_X5_guest K (x3 / 11) (x3 - x3 / 11 * 11)) (fun r2 => nm (((31 : Int64) * x1) + r2.toInt64) (fun v3 => nm (x3 + 1) (fun v4 => (f_L_looks_l33 O K n33) v3 v4)))))
def f_L_looks_l6  (O : XO) (K : RK)  : Nat → Int64 → Int32 → Option Int64
  | 0, _, _ => none
  | n6 + 1, x1, x3 => (if 21 ≤ x3 then f_L_looks_l33 O K fuelN x1 0 else bnd (f_X5_count O K x3) (fun r1 => nm (((31 : Int64) * x1) + r1.toInt64) (fun v2 => nm (x3 + 1) (fun v3 => (f_L_looks_l6 O K n6) v2 v3))))
def f_L_looks (O : XO) (K : RK)   : Option Int64 := nm ((149 : Int64)) (fun v1 => f_L_looks_l6 O K fuelN v1 0)
set_option maxHeartbeats 4000000 in
set_option maxRecDepth 100000 in
theorem c_L_looks {l : Launch} {D : va_G} {cI cR : ClassId} {ad : Nat → Nat} {A : Nat → Prop} {O : XO} {K : RK}   {r : Int64}  (hf : f_L_looks O K = some r) : MC l yL_looks wsL_looks 6 127 D cI cR A [.ref (ad 0)] (xws cI cR ad O K) (some (.long r)) (xws cI cR ad O K) := by
  refine Met.ofW (cc := cL_looks) (maxL := 4) (ret := (some .long)) (by decide) rfl ?_
  intro p e s m args below meth c s₁ B hml hv
  obtain ⟨rfl, hw⟩ := q_start hv
  have hx := B.exec
  have hb := B.bytes
  have hr := B.returns
  have hts := atoms_spec (ws := wsL_looks) B.pre
  have hown : s.vm.findClass RL = some m.cls := findClass_of_methodNamed B.named
  have hlocks := B.notSynchronized
  have hl := lv_entry ([.ref (ad 0)]) (n := 4) (Nat.le_of_ble_eq_true rfl)
  rw [lg_entry_eq]
  generalize (lg_sl ([.ref (ad 0)]) ++ List.replicate (4 - (lg_sl ([.ref (ad 0)])).length) Slot.unset).toArray = ls at hl ⊢
  have hl : lv_has ls 4 [(0, .ref (ad 0))] := hl
  unfold f_L_looks at hf
  obtain ⟨H, eH⟩ : ∃ H, H = s.heap := ⟨_, rfl⟩
  obtain ⟨locs, eL⟩ : ∃ L : List Loc, L = [] := ⟨_, rfl⟩
  rw [← eH, ← eL] at hw ⊢
  clear eH eL
  have L33 : ∀ (n33 : Nat) (x1 : Int64) (x3 : Int32) (H : Heap) (locs : List Loc) (ls : Array Slot), f_L_looks_l33 O K n33 x1 x3 = some r → WH D cI cR A (xws cI cR ad O K) s H locs → lv_has ls 4 [(0, .ref (ad 0)), (1, .long x1), (3, .int x3)] → W p l e (headSpec wsL_looks ({ frames := 6, cells := 0, slots := 0, locals := 127 })).room s m ([.ref (ad 0)] : List Value).toArray below meth c H locs 0 0 (MQ below (QV (some (.long r)) D A (xws cI cR ad O K)) (([.ref (ad 0)] : List Value)).toArray s 0 0 A) (F0 m 33 ls []) := by
    intro n33
    induction n33 with
    | zero => intro x1 x3 H locs ls hf; cases hf
    | succ n33 ih =>
      have ih33 := ih
      intro x1 x3 H locs ls hf hw hl
      simp only [f_L_looks_l33] at hf
      refine lv_iload_n hx hb dL_looks_33 rfl (lv_at hl 2 rfl) ?_
      refine lv_bipush (v := 11) hx hb dL_looks_34 (by decide) ?_
      refine lv_aload_n hx hb dL_looks_36 rfl (lv_at hl 0 rfl) ?_
      refine lv_iconst (v := 1) hx hb dL_looks_37 (by decide) ?_
      obtain ⟨r1, hr1, hf⟩ := bndS hf
      refine q_callV (rest := [.int 11, .int x3]) (st1 := [.int r1, .int 11, .int x3]) [.int 1] ⟨hx, hb, hml, hown, hts⟩ (c_X5_count hr1) (cwV 1 hts gL_looks_X5_count rfl rfl rfl (by decide +kernel) ⟨Nat.le_of_ble_eq_true rfl, Nat.le_of_ble_eq_true rfl⟩) hw xa_0 rfl rfl hl.1 rfl (Nat.le_of_ble_eq_true rfl) dL_looks_38 ⟨Nat.zero_le _, Nat.zero_le _⟩ rfl (fun H locs hw => ?_)
      refine lv_imul hx hb dL_looks_41 ?_
      refine lv_icmp_ge (tgt := 71) hx hb dL_looks_42 (by decide) (fun hc => ?_) (fun hc => ?_)
      · have hf := iteT hf hc
        refine lv_lload_n hx hb dL_looks_71 rfl (lv_at hl 1 rfl) ?_
        cases hf
        exact q_lret hx hb hr hlocks hw dL_looks_72
      · have hf := iteF hf hc
        refine lv_ldc2 (v := 31) hx hb hown (hts (.constantLong RL 11 31) (by decide +kernel)) dL_looks_45 ?_
        refine lv_lload_n hx hb dL_looks_48 rfl (lv_at hl 1 rfl) ?_
        refine lv_lmul hx hb dL_looks_49 ?_
        refine lv_aload_n hx hb dL_looks_50 rfl (lv_at hl 0 rfl) ?_
        refine lv_iload_n hx hb dL_looks_51 rfl (lv_at hl 2 rfl) ?_
        refine lv_bipush (v := 11) hx hb dL_looks_52 (by decide) ?_
        refine lv_idiv hx hb dL_looks_54 (by decide) ?_
        refine lv_iload_n hx hb dL_looks_55 rfl (lv_at hl 2 rfl) ?_
        refine lv_bipush (v := 11) hx hb dL_looks_56 (by decide) ?_
        refine lv_irem hx hb dL_looks_58 (by decide) ?_
        obtain ⟨r2, hr2, hf⟩ := bndS hf
        refine q_callV (rest := [.long ((31 : Int64) * x1)]) (st1 := [.int r2, .long ((31 : Int64) * x1)]) [.int (x3 / 11), .int (x3 - x3 / 11 * 11)] ⟨hx, hb, hml, hown, hts⟩ (c_X5_guest hr2) (cwV 2 hts gL_looks_X5_guest rfl rfl rfl (by decide +kernel) ⟨Nat.le_of_ble_eq_true rfl, Nat.le_of_ble_eq_true rfl⟩) hw xa_0 rfl rfl hl.1 rfl (Nat.le_of_ble_eq_true rfl) dL_looks_59 ⟨Nat.zero_le _, Nat.zero_le _⟩ rfl (fun H locs hw => ?_)
        refine lv_i2l hx hb dL_looks_62 rfl ?_
        refine lv_ladd hx hb dL_looks_63 ?_
        obtain ⟨v3, hv3, hf⟩ := nmE hf
        refine q_isV (congrArg Value.long hv3) ?_
        refine lv_lstore_n (lv' := [(1, .long v3), (0, .ref (ad 0)), (3, .int x3)]) hx hb dL_looks_64 rfl hl (by decide) rfl (fun ls hl => ?_)
        obtain ⟨v4, hv4, hf⟩ := nmE hf
        refine lv_iinc (v := v4) (lv' := [(3, .int v4), (1, .long v3), (0, .ref (ad 0))]) hx hb dL_looks_65 hl (k := 2) rfl (by rw [hv4]; rfl) (by decide) rfl (fun ls hl => ?_)
        refine lv_goto (tgt := 33) hx hb dL_looks_68 (by decide) ?_
        exact ih33 v3 v4 H locs ls hf hw (lv_sub hl [2, 1, 0] rfl)
  have L6 : ∀ (n6 : Nat) (x1 : Int64) (x3 : Int32) (H : Heap) (locs : List Loc) (ls : Array Slot), f_L_looks_l6 O K n6 x1 x3 = some r → WH D cI cR A (xws cI cR ad O K) s H locs → lv_has ls 4 [(0, .ref (ad 0)), (1, .long x1), (3, .int x3)] → W p l e (headSpec wsL_looks ({ frames := 6, cells := 0, slots := 0, locals := 127 })).room s m ([.ref (ad 0)] : List Value).toArray below meth c H locs 0 0 (MQ below (QV (some (.long r)) D A (xws cI cR ad O K)) (([.ref (ad 0)] : List Value)).toArray s 0 0 A) (F0 m 6 ls []) := by
    intro n6
    induction n6 with
    | zero => intro x1 x3 H locs ls hf; cases hf
    | succ n6 ih =>
      have ih6 := ih
      intro x1 x3 H locs ls hf hw hl
      simp only [f_L_looks_l6] at hf
      refine lv_iload_n hx hb dL_looks_6 rfl (lv_at hl 2 rfl) ?_
      refine lv_bipush (v := 21) hx hb dL_looks_7 (by decide) ?_
      refine lv_icmp_ge (tgt := 31) hx hb dL_looks_9 (by decide) (fun hc => ?_) (fun hc => ?_)
      · have hf := iteT hf hc
        refine lv_iconst (v := 0) hx hb dL_looks_31 (by decide) ?_
        refine lv_istore_n (lv' := [(3, .int 0), (0, .ref (ad 0)), (1, .long x1)]) hx hb dL_looks_32 rfl hl (by decide) rfl (fun ls hl => ?_)
        exact L33 fuelN x1 0 H locs ls hf hw (lv_sub hl [1, 2, 0] rfl)
      · have hf := iteF hf hc
        refine lv_ldc2 (v := 31) hx hb hown (hts (.constantLong RL 11 31) (by decide +kernel)) dL_looks_12 ?_
        refine lv_lload_n hx hb dL_looks_15 rfl (lv_at hl 1 rfl) ?_
        refine lv_lmul hx hb dL_looks_16 ?_
        refine lv_aload_n hx hb dL_looks_17 rfl (lv_at hl 0 rfl) ?_
        refine lv_iload_n hx hb dL_looks_18 rfl (lv_at hl 2 rfl) ?_
        obtain ⟨r1, hr1, hf⟩ := bndS hf
        refine q_callV (rest := [.long ((31 : Int64) * x1)]) (st1 := [.int r1, .long ((31 : Int64) * x1)]) [.int x3] ⟨hx, hb, hml, hown, hts⟩ (c_X5_count hr1) (cwV 1 hts gL_looks_X5_count rfl rfl rfl (by decide +kernel) ⟨Nat.le_of_ble_eq_true rfl, Nat.le_of_ble_eq_true rfl⟩) hw xa_0 rfl rfl hl.1 rfl (Nat.le_of_ble_eq_true rfl) dL_looks_19 ⟨Nat.zero_le _, Nat.zero_le _⟩ rfl (fun H locs hw => ?_)
        refine lv_i2l hx hb dL_looks_22 rfl ?_
        refine lv_ladd hx hb dL_looks_23 ?_
        obtain ⟨v2, hv2, hf⟩ := nmE hf
        refine q_isV (congrArg Value.long hv2) ?_
        refine lv_lstore_n (lv' := [(1, .long v2), (0, .ref (ad 0)), (3, .int x3)]) hx hb dL_looks_24 rfl hl (by decide) rfl (fun ls hl => ?_)
        obtain ⟨v3, hv3, hf⟩ := nmE hf
        refine lv_iinc (v := v3) (lv' := [(3, .int v3), (1, .long v2), (0, .ref (ad 0))]) hx hb dL_looks_25 hl (k := 2) rfl (by rw [hv3]; rfl) (by decide) rfl (fun ls hl => ?_)
        refine lv_goto (tgt := 6) hx hb dL_looks_28 (by decide) ?_
        exact ih6 v2 v3 H locs ls hf hw (lv_sub hl [2, 1, 0] rfl)
  refine lv_ldc2 (v := 149) hx hb hown (hts (.constantLong RL 9 149) (by decide +kernel)) dL_looks_0 ?_
  obtain ⟨v1, hv1, hf⟩ := nmE hf
  refine q_isV (congrArg Value.long hv1) ?_
  refine lv_lstore_n (lv' := [(1, .long v1), (0, .ref (ad 0))]) hx hb dL_looks_3 rfl hl (by decide) rfl (fun ls hl => ?_)
  refine lv_iconst (v := 0) hx hb dL_looks_4 (by decide) ?_
  refine lv_istore_n (lv' := [(3, .int 0), (1, .long v1), (0, .ref (ad 0))]) hx hb dL_looks_5 rfl hl (by decide) rfl (fun ls hl => ?_)
  exact L6 fuelN v1 0 H locs ls hf hw (lv_sub hl [2, 1, 0] rfl)
