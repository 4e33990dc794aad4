/-! rows of numbers that lie outside (statics) -/
def SX (a : Nat) (xs : Nat → Int32) (A : Nat → Prop) (U : State) (H : Heap) : Prop := va_X a 6 xs U H ∧ a < H.size ∧ ¬ A a
theorem SX.go {a : Nat} {xs : Nat → Int32} {A : Nat → Prop} {s U : State} {H : Heap} {locs : List Loc} (h : SX a xs A s s.heap) (hS : va_S A s.heap H locs) (hU : U.heap = H) (hW : s.WarmedH U.vm) : SX a xs A U U.heap := by
  obtain ⟨h2, h3, h4⟩ := h
  rw [hU]
  exact ⟨va_X.moved hW.alike (h2.kept (hS.2.1 a h3 h4)), Nat.lt_of_lt_of_le h3 hS.1, h4⟩
theorem o_blind {D : va_G} {cI cR : ClassId} {A : Nat → Prop} {w : va_W} {av : List Value} {a : Nat} {xs : Nat → Int32} : FrameBlind (va_Pc av (fun U => WB D cI cR A w U ∧ SX a xs A U U.heap)) := fun v U g mk h => ⟨h.1, (q_blind v U g mk ⟨h.1, h.2.1⟩).2, va_X.moved (u := U) (U := U.calling g mk v) (Vm.Alike.refl U.vm) h.2.2.1, h.2.2.2⟩
theorem o_preS {s : State} {H : Heap} {locs : List Loc} {D : va_G} {cI cR : ClassId} {A : Nat → Prop} {w : va_W} {av : List Value} {a : Nat} {xs : Nat → Int32} (hw : WH D cI cR A w s H locs) (hX : SX a xs A s s.heap) : PreS s H (va_Pc av (fun U => WB D cI cR A w U ∧ SX a xs A U U.heap)) av := ⟨o_blind, fun U hU hW => ⟨rfl, ((q_preS (av := av) hw).2 U hU hW).2, hX.go hw.2.2.2.1 hU hW⟩⟩
set_option maxHeartbeats 4000000 in
set_option maxRecDepth 100000 in
theorem c_X5_atO {l : Launch} {D : va_G} {cI cR : ClassId} {A : Nat → Prop} {w : va_W} {a : Nat} {f : Nat → Int32} {i r : Int32} (er : r = at_ 6 f i) : Met l yX5_at wsX5_at ({ frames := 0, cells := 0, slots := 0, locals := 0 }) (va_Pc [.ref a, .int i] (fun U => WB D cI cR A w U ∧ SX a f A U U.heap)) (QV (some (.int r)) D A w) 0 0 A := by
  refine Met.ofW (cc := cX5_at) (maxL := 2) (ret := (some .int)) (by decide) rfl ?_
  intro p e s m args below meth c s₁ B hml hv
  have hX : SX a f A s s.heap := hv.2.2
  obtain ⟨rfl, hw⟩ := q_start (w := w) (D := D) (cI := cI) (cR := cR) (A := A) ⟨hv.1, hv.2.1⟩
  obtain ⟨hX1, hX2, hX3⟩ := hX
  have hx := B.exec
  have hb := B.bytes
  have hr := B.returns
  have hlocks := B.notSynchronized
  have hl := lv_entry ([.ref a, .int i]) (n := 2) (Nat.le_of_ble_eq_true rfl)
  rw [lg_entry_eq]
  generalize (lg_sl ([.ref a, .int i]) ++ List.replicate (2 - (lg_sl ([.ref a, .int i])).length) Slot.unset).toArray = ls at hl ⊢
  have hl : lv_has ls 2 [(0, .ref a), (1, .int i)] := hl
  unfold at_ at er
  refine lv_iload_n hx hb dX5_at_0 rfl (lv_at hl 1 rfl) ?_
  refine lv_if_lt (tgt := 16) hx hb dX5_at_1 (by decide) (fun hc => ?_) (fun hc => ?_)
  · rw [if_pos hc] at er
    refine lv_iconst (v := 0) hx hb dX5_at_16 (by decide) ?_
    refine q_is er ?_
    exact q_iret hx hb hr hlocks hw dX5_at_17
  · rw [if_neg hc] at er
    refine lv_iload_n hx hb dX5_at_4 rfl (lv_at hl 1 rfl) ?_
    refine lv_aload_n hx hb dX5_at_5 rfl (lv_at hl 0 rfl) ?_
    refine va_slen hx hb hX1 hX2 hX3 hw.2.2.2.1 dX5_at_6 ?_
    refine lv_icmp_ge (tgt := 16) hx hb dX5_at_7 (by decide) (fun hc2 => ?_) (fun hc2 => ?_)
    · rw [if_pos hc2] at er
      refine lv_iconst (v := 0) hx hb dX5_at_16 (by decide) ?_
      refine q_is er ?_
      exact q_iret hx hb hr hlocks hw dX5_at_17
    · rw [if_neg hc2] at er
      refine lv_aload_n hx hb dX5_at_10 rfl (lv_at hl 0 rfl) ?_
      refine lv_iload_n hx hb dX5_at_11 rfl (lv_at hl 1 rfl) ?_
      refine va_sld hx hb hX1 hX2 hX3 hw.2.2.2.1 (at_in (by decide) hc hc2) dX5_at_12 ?_
      refine lv_goto (tgt := 17) hx hb dX5_at_13 (by decide) ?_
      refine q_is er ?_
      exact q_iret hx hb hr hlocks hw dX5_at_17
def f_X5_set (O : XO) (K : RK)  (a1 : Int32) (a2 : Int32) : Option (Int32 × XO × RK) := bnd (f_X5_isWithin a1 0 5) (fun r1 => gd (ndb r1) (nm (at_ 6 saL a1) (fun r2 => nm (at_ 6 saM a1) (fun r3 => bnd (f_X5_isWithin a2 r2 r3) (fun r4 => gd (ndb r4) (bnd (f_X2_save O K) (fun O5 => nm (at_ 6 (K 10) a1) (fun r6 => nm (upR K 10 (put_ 6 (K 10) a1 a2)) (fun K7 => some (r6, O5, K7))))))))))
set_option maxHeartbeats 4000000 in
set_option maxRecDepth 100000 in
theorem c_X5_set {l : Launch} {D : va_G} {cI cR : ClassId} {ad : Nat → Nat} {A : Nat → Prop} {O : XO} {K : RK} {O' : XO} {K' : RK} {a1 : Int32} {a2 : Int32} {r : Int32}  (hf : f_X5_set O K a1 a2 = some (r, O', K')) : MO l yX5_set wsX5_set 5 105 0 0 D cI cR A [.ref (ad 0), .int a1, .int a2] (xws cI cR ad O K) (some (.int r)) (xws cI cR ad O' K') := by
  refine Met.ofW (cc := cX5_set) (maxL := 4) (ret := (some .int)) (by decide) rfl ?_
  intro p e s m args below meth c s₁ B hml hv
  obtain ⟨rfl, hw, hO, hA⟩ := x_start hv
  obtain ⟨-, ⟨aL, hzL, hxL, hlL, hnL⟩, ⟨aM, hzM, hxM, hlM, hnM⟩⟩ := id hO
  have hx := B.exec
  have hb := B.bytes
  have hr := B.returns
  have hts := atoms_spec (ws := wsX5_set) B.pre
  have hown : s.vm.findClass RX5 = some m.cls := findClass_of_methodNamed B.named
  have hlocks := B.notSynchronized
  have hiX0 : ∀ w ∈ wsX00, w ∈ wsX5_set := by decide +kernel
  have hiX5 : ∀ w ∈ wsX50, w ∈ wsX5_set := by decide +kernel
  have hl := lv_entry ([.ref (ad 0), .int a1, .int a2]) (n := 4) (Nat.le_of_ble_eq_true rfl)
  rw [lg_entry_eq]
  generalize (lg_sl ([.ref (ad 0), .int a1, .int a2]) ++ List.replicate (4 - (lg_sl ([.ref (ad 0), .int a1, .int a2])).length) Slot.unset).toArray = ls at hl ⊢
  have hl : lv_has ls 4 [(0, .ref (ad 0)), (1, .int a1), (2, .int a2)] := hl
  unfold f_X5_set at hf
  obtain ⟨H, eH⟩ : ∃ H, H = s.heap := ⟨_, rfl⟩
  obtain ⟨locs, eL⟩ : ∃ L : List Loc, L = [] := ⟨_, rfl⟩
  rw [← eH, ← eL] at hw ⊢
  clear eH eL
  refine lv_iload_n hx hb dX5_set_0 rfl (lv_at hl 1 rfl) ?_
  refine lv_iconst (v := 0) hx hb dX5_set_1 (by decide) ?_
  refine lv_iconst (v := 5) hx hb dX5_set_2 (by decide) ?_
  obtain ⟨r1, hr1, hf⟩ := bndS hf
  refine q_callS (rest := []) (st1 := [.int r1]) [.int a1, .int 0, .int 5] ⟨hx, hb, hml, hown, hts⟩ (c_X5_isWithin hr1) (va_cwS 3 hts gX5_set_X5_isWithin rfl rfl rfl (by decide +kernel) ⟨Nat.le_of_ble_eq_true rfl, Nat.le_of_ble_eq_true rfl⟩) hw rfl hl.1 rfl (Nat.le_of_ble_eq_true rfl) dX5_set_3 ⟨Nat.zero_le _, Nat.zero_le _⟩ rfl (fun H locs hw => ?_)
  obtain ⟨hg, hf⟩ := gdE hf
  refine q_callS (rest := []) (st1 := []) [.int r1] ⟨hx, hb, hml, hown, hts⟩ (c_X5_needIndex hg) (va_cwS 1 hts gX5_set_X5_needIndex rfl rfl rfl (by decide +kernel) ⟨Nat.le_of_ble_eq_true rfl, Nat.le_of_ble_eq_true rfl⟩) hw rfl hl.1 rfl (Nat.le_of_ble_eq_true rfl) dX5_set_6 ⟨Nat.zero_le _, Nat.zero_le _⟩ rfl (fun H locs hw => ?_)
  refine lv_iload_n hx hb dX5_set_9 rfl (lv_at hl 2 rfl) ?_
  refine va_gets hx hb hzL hw.2.2.2.1 hown (hts (.fieldLink RX5 146 "LaceRanks" "SETTING_LEAST" "[I") (by decide +kernel)) (fun _ h => h) dX5_set_10 ?_
  refine lv_iload_n hx hb dX5_set_13 rfl (lv_at hl 1 rfl) ?_
  obtain ⟨r2, hr2, hf⟩ := nmE hf
  refine q_run (w' := xws cI cR ad O K) (st1 := [.int r2, .int a2]) (va_runS (As := [.ref aL, .int a1]) (rest := [.int a2]) ⟨hx, hb, hml, hown, hts⟩ (c_X5_atO hr2) (va_cwS 2 hts gX5_set_X5_at rfl rfl rfl (by decide +kernel) ⟨Nat.le_of_ble_eq_true rfl, Nat.le_of_ble_eq_true rfl⟩) (o_preS hw ⟨hxL, hlL, hnL⟩) rfl rfl hl.1 rfl (lv_room (Nat.le_of_ble_eq_true rfl)) dX5_set_14 ⟨Nat.le_of_ble_eq_true rfl, Nat.le_of_ble_eq_true rfl⟩) hw rfl (fun H locs hw => ?_)
  refine va_gets hx hb hzM hw.2.2.2.1 hown (hts (.fieldLink RX5 149 "LaceRanks" "SETTING_MOST" "[I") (by decide +kernel)) (fun _ h => h) dX5_set_17 ?_
  refine lv_iload_n hx hb dX5_set_20 rfl (lv_at hl 1 rfl) ?_
  obtain ⟨r3, hr3, hf⟩ := nmE hf
  refine q_run (w' := xws cI cR ad O K) (st1 := [.int r3, .int r2, .int a2]) (va_runS (As := [.ref aM, .int a1]) (rest := [.int r2, .int a2]) ⟨hx, hb, hml, hown, hts⟩ (c_X5_atO hr3) (va_cwS 2 hts gX5_set_X5_at rfl rfl rfl (by decide +kernel) ⟨Nat.le_of_ble_eq_true rfl, Nat.le_of_ble_eq_true rfl⟩) (o_preS hw ⟨hxM, hlM, hnM⟩) rfl rfl hl.1 rfl (lv_room (Nat.le_of_ble_eq_true rfl)) dX5_set_21 ⟨Nat.le_of_ble_eq_true rfl, Nat.le_of_ble_eq_true rfl⟩) hw rfl (fun H locs hw => ?_)
  obtain ⟨r4, hr4, hf⟩ := bndS hf
  refine q_callS (rest := []) (st1 := [.int r4]) [.int a2, .int r2, .int r3] ⟨hx, hb, hml, hown, hts⟩ (c_X5_isWithin hr4) (va_cwS 3 hts gX5_set_X5_isWithin rfl rfl rfl (by decide +kernel) ⟨Nat.le_of_ble_eq_true rfl, Nat.le_of_ble_eq_true rfl⟩) hw rfl hl.1 rfl (Nat.le_of_ble_eq_true rfl) dX5_set_24 ⟨Nat.zero_le _, Nat.zero_le _⟩ rfl (fun H locs hw => ?_)
  obtain ⟨hg, hf⟩ := gdE hf
  refine q_callS (rest := []) (st1 := []) [.int r4] ⟨hx, hb, hml, hown, hts⟩ (c_X5_needArgument hg) (va_cwS 1 hts gX5_set_X5_needArgument rfl rfl rfl (by decide +kernel) ⟨Nat.le_of_ble_eq_true rfl, Nat.le_of_ble_eq_true rfl⟩) hw rfl hl.1 rfl (Nat.le_of_ble_eq_true rfl) dX5_set_27 ⟨Nat.zero_le _, Nat.zero_le _⟩ rfl (fun H locs hw => ?_)
  refine lv_aload_n hx hb dX5_set_30 rfl (lv_at hl 0 rfl) ?_
  refine q_get hx hb hts hiX5 hown hw 0 xa_0 rfl 2 (by decide) (hts (.fieldLink RX5 22 "LaceRanks" "history" "LLaceRanks$History;") (by decide +kernel)) rfl dX5_set_31 ?_
  refine lv_aload_n hx hb dX5_set_34 rfl (lv_at hl 0 rfl) ?_
  refine q_get hx hb hts hiX5 hown hw 0 xa_0 rfl 0 (by decide) (hts (.fieldLink RX5 10 "LaceRanks" "now" "LLaceRanks$Carnival;") (by decide +kernel)) rfl dX5_set_35 ?_
  obtain ⟨O5, hr5, hf⟩ := bndS hf
  refine q_callVN (rest := []) (st1 := []) [.ref (ad 1)] ⟨hx, hb, hml, hown, hts⟩ (c_X2_save hr5) ⟨va_cnB 1 hts gX5_set_X2_save_n58 rfl rfl rfl (nw_X5_58 hw.2.2.2.2) (hts (.initialized RX2) (by decide +kernel)) (by decide +kernel) ⟨Nat.le_of_ble_eq_true rfl, Nat.le_of_ble_eq_true rfl⟩, (hts (.instanceMethod yX2_save) (by decide +kernel)), (hts (.selects RX2 yX2_save yX2_save) (by decide +kernel))⟩ hw xa_29 rfl rfl hl.1 rfl (Nat.le_of_ble_eq_true rfl) dX5_set_38 ⟨Nat.zero_le _, Nat.zero_le _⟩ rfl (fun H locs hw => ?_)
  refine lv_aload_n hx hb dX5_set_41 rfl (lv_at hl 0 rfl) ?_
  refine q_get hx hb hts hiX5 hown hw 0 xa_0 rfl 0 (by decide) (hts (.fieldLink RX5 10 "LaceRanks" "now" "LLaceRanks$Carnival;") (by decide +kernel)) rfl dX5_set_42 ?_
  refine q_getN hx hb hts hiX0 hown hw 1 xa_1 rfl 2 (by decide) (nw_X5_152 hw.2.2.2.2) rfl dX5_set_45 ?_
  refine lv_iload_n hx hb dX5_set_48 rfl (lv_at hl 1 rfl) ?_
  obtain ⟨r6, hr6, hf⟩ := nmE hf
  refine q_callS (rest := []) (st1 := [.int r6]) [.ref (ad 14), .int a1] ⟨hx, hb, hml, hown, hts⟩ (c_X5_at (q0 := 14) xa_14 hr6) (va_cwS 2 hts gX5_set_X5_at rfl rfl rfl (by decide +kernel) ⟨Nat.le_of_ble_eq_true rfl, Nat.le_of_ble_eq_true rfl⟩) hw rfl hl.1 rfl (Nat.le_of_ble_eq_true rfl) dX5_set_49 ⟨Nat.zero_le _, Nat.zero_le _⟩ rfl (fun H locs hw => ?_)
  refine lv_istore_n (lv' := [(3, .int r6), (0, .ref (ad 0)), (1, .int a1), (2, .int a2)]) hx hb dX5_set_52 rfl hl (by decide) rfl (fun ls hl => ?_)
  refine lv_aload_n hx hb dX5_set_53 rfl (lv_at hl 1 rfl) ?_
  refine q_get hx hb hts hiX5 hown hw 0 xa_0 rfl 0 (by decide) (hts (.fieldLink RX5 10 "LaceRanks" "now" "LLaceRanks$Carnival;") (by decide +kernel)) rfl dX5_set_54 ?_
  refine q_getN hx hb hts hiX0 hown hw 1 xa_1 rfl 2 (by decide) (nw_X5_152 hw.2.2.2.2) rfl dX5_set_57 ?_
  refine lv_iload_n hx hb dX5_set_60 rfl (lv_at hl 2 rfl) ?_
  refine lv_iload_n hx hb dX5_set_61 rfl (lv_at hl 3 rfl) ?_
  obtain ⟨K7, hK7, hf⟩ := nmE hf
  refine q_callS (rest := []) (st1 := []) [.ref (ad 14), .int a1, .int a2] ⟨hx, hb, hml, hown, hts⟩ (c_X5_put (q0 := 14) xa_14 (xs_14.trans (congrArg (fun z => (xws cI cR ad O5 z)) hK7.symm))) (va_cwS 3 hts gX5_set_X5_put rfl rfl rfl (by decide +kernel) ⟨Nat.le_of_ble_eq_true rfl, Nat.le_of_ble_eq_true rfl⟩) hw rfl hl.1 rfl (Nat.le_of_ble_eq_true rfl) dX5_set_62 ⟨Nat.zero_le _, Nat.zero_le _⟩ rfl (fun H locs hw => ?_)
  refine lv_iload_n hx hb dX5_set_65 rfl (lv_at hl 0 rfl) ?_
  cases hf
  exact q_iret hx hb hr hlocks hw dX5_set_66
