/-! the law's own numbers, read off the script -/
def SY (b L : Nat) (xs : Nat → Int32) (A : Nat → Prop) (U : State) (H : Heap) : Prop := va_X b L xs U H ∧ b < H.size ∧ ¬ A b
theorem SY.go {a L : Nat} {xs : Nat → Int32} {A : Nat → Prop} {s U : State} {H : Heap} {locs : List Loc} (h : SY a L xs A s s.heap) (hS : va_S A s.heap H locs) (hU : U.heap = H) (hW : s.WarmedH U.vm) : SY a L xs A U U.heap := by
  obtain ⟨h2, h3, h4⟩ := h
  rw [hU]
  exact ⟨va_X.moved hW.alike (h2.kept (hS.2.1 a h3 h4)), Nat.lt_of_lt_of_le h3 hS.1, h4⟩
theorem y_blind {D : va_G} {cI cR : ClassId} {A : Nat → Prop} {w : va_W} {av : List Value} {a L : Nat} {xs : Nat → Int32} : FrameBlind (va_Pc av (fun U => WB D cI cR A w U ∧ SY a L xs A U U.heap)) := fun v U g mk h => ⟨h.1, (q_blind v U g mk ⟨h.1, h.2.1⟩).2, va_X.moved (u := U) (U := U.calling g mk v) (Vm.Alike.refl U.vm) h.2.2.1, h.2.2.2⟩
theorem y_preS {s : State} {H : Heap} {locs : List Loc} {D : va_G} {cI cR : ClassId} {A : Nat → Prop} {w : va_W} {av : List Value} {a L : Nat} {xs : Nat → Int32} (hw : WH D cI cR A w s H locs) (hX : SY a L xs A s s.heap) : PreS s H (va_Pc av (fun U => WB D cI cR A w U ∧ SY a L xs A U U.heap)) av := ⟨y_blind, fun U hU hW => ⟨rfl, ((q_preS (av := av) hw).2 U hU hW).2, hX.go hw.2.2.2.1 hU hW⟩⟩
def cell_ (L : Nat) (xs : Nat → Int32) (k : Int32) : Int32 := if Int32.ofNat L ≤ k then 1812433253 * (k + 353) else xs k.toNatClampNeg
def celb (k : Int32) : Bool := decide (¬ k < 0)
set_option maxHeartbeats 4000000 in
set_option maxRecDepth 100000 in
theorem c_L_cell {l : Launch} {D : va_G} {cI cR : ClassId} {A : Nat → Prop} {w : va_W} {b L : Nat} {xs : Nat → Int32} {k r : Int32} (hL : L ≤ 260) (hg : celb k = true) (er : r = cell_ L xs k) : Met l yL_cell wsL_cell ({ frames := 0, cells := 0, slots := 0, locals := 0 }) (va_Pc [.ref b, .int k] (fun U => WB D cI cR A w U ∧ SY b L xs A U U.heap)) (QV (some (.int r)) D A w) 0 0 A := by
  refine Met.ofW (cc := cL_cell) (maxL := 2) (ret := (some .int)) (by decide) rfl ?_
  intro p e s m args below meth c s₁ B hml hv
  have hX : SY b L xs A s s.heap := hv.2.2
  obtain ⟨rfl, hw⟩ := q_start (w := w) (D := D) (cI := cI) (cR := cR) (A := A) ⟨hv.1, hv.2.1⟩
  obtain ⟨hX1, hX2, hX3⟩ := hX
  have hx := B.exec
  have hb := B.bytes
  have hr := B.returns
  have hts := atoms_spec (ws := wsL_cell) B.pre
  have hown : s.vm.findClass RL = some m.cls := findClass_of_methodNamed B.named
  have hlocks := B.notSynchronized
  have hl := lv_entry ([.ref b, .int k]) (n := 2) (Nat.le_of_ble_eq_true rfl)
  rw [lg_entry_eq]
  generalize (lg_sl ([.ref b, .int k]) ++ List.replicate (2 - (lg_sl ([.ref b, .int k])).length) Slot.unset).toArray = ls at hl ⊢
  have hl : lv_has ls 2 [(0, .ref b), (1, .int k)] := hl
  have hk : ¬ k < 0 := of_decide_eq_true hg
  unfold cell_ at er
  refine lv_iload_n hx hb dL_cell_0 rfl (lv_at hl 1 rfl) ?_
  refine lv_aload_n hx hb dL_cell_1 rfl (lv_at hl 0 rfl) ?_
  refine va_slen hx hb hX1 hX2 hX3 hw.2.2.2.1 dL_cell_2 ?_
  refine lv_icmp_ge (tgt := 12) hx hb dL_cell_3 (by decide) (fun hc => ?_) (fun hc => ?_)
  · rw [if_pos hc] at er
    refine lv_ldc (v := 1812433253) hx hb hown (hts (.constant RL 7 1812433253) (by decide +kernel)) dL_cell_12 ?_
    refine lv_iload_n hx hb dL_cell_14 rfl (lv_at hl 1 rfl) ?_
    refine lv_sipush (v := 353) hx hb dL_cell_15 (by decide) ?_
    refine lv_iadd hx hb dL_cell_18 ?_
    refine lv_imul hx hb dL_cell_19 ?_
    refine q_is er ?_
    exact q_iret hx hb hr hlocks hw dL_cell_20
  · rw [if_neg hc] at er
    refine lv_aload_n hx hb dL_cell_6 rfl (lv_at hl 0 rfl) ?_
    refine lv_iload_n hx hb dL_cell_7 rfl (lv_at hl 1 rfl) ?_
    refine va_sld hx hb hX1 hX2 hX3 hw.2.2.2.1 (at_in (by omega) hk hc) dL_cell_8 ?_
    refine lv_goto (tgt := 20) hx hb dL_cell_9 (by decide) ?_
    refine q_is er ?_
    exact q_iret hx hb hr hlocks hw dL_cell_20
theorem lq_room {cells slots n q : Nat} (h1 : cells + n ≤ 2000) (h2 : slots + q ≤ 12000) : cells + n ≤ room_1.cells ∧ slots + q ≤ room_1.slots := ⟨Nat.le_trans h1 (Nat.le_of_ble_eq_true rfl), Nat.le_trans h2 (Nat.le_of_ble_eq_true rfl)⟩
theorem lq_room0 {cells slots n q : Nat} (h1 : cells + n ≤ 2000) (h2 : slots + q ≤ 12000) : cells + 0 ≤ room_1.cells ∧ slots + 0 ≤ room_1.slots := lq_room (Nat.le_trans (Nat.add_le_add_left (Nat.zero_le _) _) h1) (Nat.le_trans (Nat.add_le_add_left (Nat.zero_le _) _) h2)
theorem lq_room1 {cells slots n q : Nat} (h1 : cells + (n + 1) ≤ 2000) (h2 : slots + (q + 6) ≤ 12000) : cells + 1 ≤ room_1.cells ∧ slots + 6 ≤ room_1.slots := lq_room (by omega) (by omega)
def f_L_law_b278 (k30 : XO → RK → Int32 → Int32 → Option Int32) (L : Nat) (xs : Nat → Int32) (O : XO) (K : RK) (x3 : Int32) (y0 : Int32) : Option Int32 := nm (x3 + 1) (fun v1 => k30 O K y0 v1)
def f_L_law_b277 (k30 : XO → RK → Int32 → Int32 → Option Int32) (L : Nat) (xs : Nat → Int32) (O : XO) (K : RK) (x3 : Int32) : Option Int32 := f_L_law_b278 k30 L xs O K x3 0
def f_L_law_b273 (k30 : XO → RK → Int32 → Int32 → Option Int32) (L : Nat) (xs : Nat → Int32) (O : XO) (K : RK) (x3 : Int32) : Option Int32 := f_L_law_b278 k30 L xs O K x3 1
def f_L_law_b252 (k30 : XO → RK → Int32 → Int32 → Option Int32) (L : Nat) (xs : Nat → Int32) (O : XO) (K : RK) (x3 : Int32) : Option Int32 := (if (x3 - x3 / 23 * 23) = 14 then bnd2 (f_X5_keep O K) (fun r1 O2 => bnd (f_X5_count O2 K 0) (fun r3 => (if r1 = r3 then f_L_law_b273 k30 L xs O2 K x3 else f_L_law_b277 k30 L xs O2 K x3))) else f_L_law_b273 k30 L xs O K x3)
def f_L_law_b198 (k30 : XO → RK → Int32 → Int32 → Option Int32) (L : Nat) (xs : Nat → Int32) (O : XO) (K : RK) (x2 : Int32) (x3 : Int32) (x4 : Int32) (x5 : Int32) : Option Int32 := bnd (f_X5_count O K 1) (fun r1 => (if x2 = 0 then f_L_law_b277 k30 L xs O K x3 else bnd (f_L_holds O K) (fun r2 => (if r2 = 0 then f_L_law_b277 k30 L xs O K x3 else (if (x3 - x3 / 3 * 3) = 1 then (if r1 = 0 then f_L_law_b252 k30 L xs O K x3 else gd (upb r1) (nm (up_ (x4 >>> (5 &&& 31)) r1) (fun r3 => gd (upb 3) (nm (up_ (x5 >>> (5 &&& 31)) 3) (fun r4 => bnd3 (f_L_isAhead O K r3 r4) (fun r5 O6 K7 => (if r5 = 0 then f_L_law_b277 k30 L xs O6 K7 x3 else f_L_law_b252 k30 L xs O6 K7 x3))))))) else f_L_law_b252 k30 L xs O K x3)))))
def f_L_law_b197 (k30 : XO → RK → Int32 → Int32 → Option Int32) (L : Nat) (xs : Nat → Int32) (O : XO) (K : RK) (x3 : Int32) (x4 : Int32) (x5 : Int32) (y0 : Int32) : Option Int32 := f_L_law_b198 k30 L xs O K y0 x3 x4 x5
def f_L_law_b196 (k30 : XO → RK → Int32 → Int32 → Option Int32) (L : Nat) (xs : Nat → Int32) (O : XO) (K : RK) (x3 : Int32) (x4 : Int32) (x5 : Int32) : Option Int32 := f_L_law_b197 k30 L xs O K x3 x4 x5 0
def f_L_law_b119 (k30 : XO → RK → Int32 → Int32 → Option Int32) (L : Nat) (xs : Nat → Int32) (O : XO) (K : RK) (x3 : Int32) (x4 : Int32) (x5 : Int32) (x6 : Int64) (x9 : Int32) (y0 : Int32) : Option Int32 := (if y0 = 0 then f_L_law_b198 k30 L xs O K y0 x3 x4 x5 else (if ((x4 >>> (8 &&& 31)) &&& 3) = 0 then bnd (f_L_looks O K) (fun r1 => bnd (f_X5_count O K 21) (fun r2 => bnd3 (f_X5_undo O K) (fun r3 O4 K5 => (if r3 = (r2 - 1) then bnd (f_L_looks O4 K5) (fun r6 => (if (lg_cmp r6 x6) = 0 then bnd3 (f_L_act O4 K5 x4 x5) (fun r7 O8 K9 => (if r7 = x9 then bnd (f_L_looks O8 K9) (fun r10 => (if (lg_cmp r10 r1) = 0 then f_L_law_b197 k30 L xs O8 K9 x3 x4 x5 1 else f_L_law_b196 k30 L xs O8 K9 x3 x4 x5)) else f_L_law_b196 k30 L xs O8 K9 x3 x4 x5)) else f_L_law_b196 k30 L xs O4 K5 x3 x4 x5)) else f_L_law_b196 k30 L xs O4 K5 x3 x4 x5)))) else f_L_law_b198 k30 L xs O K y0 x3 x4 x5))
def f_L_law_b118 (k30 : XO → RK → Int32 → Int32 → Option Int32) (L : Nat) (xs : Nat → Int32) (O : XO) (K : RK) (x3 : Int32) (x4 : Int32) (x5 : Int32) (x6 : Int64) (x9 : Int32) : Option Int32 := f_L_law_b119 k30 L xs O K x3 x4 x5 x6 x9 0
def f_L_law_b111 (k30 : XO → RK → Int32 → Int32 → Option Int32) (L : Nat) (xs : Nat → Int32) (O : XO) (K : RK) (x3 : Int32) (x4 : Int32) (x5 : Int32) (x6 : Int64) (x9 : Int32) (y0 : Int32) (y1 : Int32) : Option Int32 := (if y1 = y0 then f_L_law_b119 k30 L xs O K x3 x4 x5 x6 x9 1 else f_L_law_b118 k30 L xs O K x3 x4 x5 x6 x9)
def f_L_law_l30 (L : Nat) (xs : Nat → Int32) : Nat → XO → RK → Int32 → Int32 → Option Int32
  | 0, _, _, _, _ => none
  | n30 + 1, O, K, x2, x3 => (if 66 ≤ x3 then gd (zb x2) (some x2) else (if x2 = 0 then gd (zb x2) (some x2) else gd (celb (2 * x3)) (nm (cell_ L xs (2 * x3)) (fun r1 => gd (celb ((2 * x3) + 1)) (nm (cell_ L xs ((2 * x3) + 1)) (fun r2 => bnd (f_L_looks O K) (fun r3 => bnd (f_X5_count O K 21) (fun r4 => bnd3 (f_L_act O K r1 r2) (fun r5 O6 K7 => (if r5 < 0 then f_L_law_b118 (f_L_law_l30 L xs n30) L xs O6 K7 x3 r1 r2 r3 r5 else bnd (f_X5_count O6 K7 21) (fun r8 => (if 6 ≤ r4 then f_L_law_b111 (f_L_law_l30 L xs n30) L xs O6 K7 x3 r1 r2 r3 r5 6 r8 else f_L_law_b111 (f_L_law_l30 L xs n30) L xs O6 K7 x3 r1 r2 r3 r5 (r4 + 1) r8))))))))))))
def LC (p : Program) (l : Launch) (s : State) (m : MethodId) (meth : Method) (c : Code) (D : va_G) (cI cR : ClassId) (b L : Nat) (xs : Nat → Int32) : Prop := p.tables.exec = Jvm.exec ∧ c.code = cL_law ∧ c.maxLocals = 13 ∧ s.vm.findClass RL = some m.cls ∧ (∀ w ∈ wsL_law, w.before #[Value.ref b] s = true) ∧ OUT (fun q : Nat => s.heap.size ≤ q) s s.heap ∧ SY b L xs (fun q : Nat => s.heap.size ≤ q) s s.heap ∧ L ≤ 260
set_option maxHeartbeats 4000000 in
set_option maxRecDepth 100000 in
theorem law_loop {p : Program} {l : Launch} {e : Env} {s : State} {m : MethodId} {below : List Frame} {meth : Method} {c : Code} {D : va_G} {cI cR : ClassId} {ad : Nat → Nat} {b L : Nat} {xs : Nat → Int32} {Q : State → Prop} (hC : LC p l s m meth c D cI cR b L xs) (hEnd : ∀ (w : va_W) (H : Heap) (locs : List Loc) (ls : Array Slot) (cells slots : Nat), WH D cI cR (fun q : Nat => s.heap.size ≤ q) w s H locs → cells ≤ 2000 → slots ≤ 12000 → W p l e room_1 s m #[Value.ref b] below meth c H locs cells slots Q (F0 m 286 ls [.int 1])) : ∀ (n30 : Nat) (O : XO) (K : RK) (x2 : Int32) (x3 : Int32) (H : Heap) (locs : List Loc) (ls : Array Slot) (cells slots : Nat), f_L_law_l30 L xs n30 O K x2 x3 = some 1 → WH D cI cR (fun q : Nat => s.heap.size ≤ q) (xws cI cR ad O K) s H locs → lv_has ls 13 [(0, .ref b), (1, .ref (ad 0)), (2, .int x2), (3, .int x3)] → cells + n30 ≤ 2000 → slots + 6 * n30 ≤ 12000 → W p l e room_1 s m #[Value.ref b] below meth c H locs cells slots Q (F0 m 30 ls []) := by
  obtain ⟨hx, hb, hml, hown, hts, hO, hY, hL⟩ := hC
  have hA : ∀ q : Nat, s.heap.size ≤ q → s.heap.size ≤ q := fun _ h => h
  intro n30
  induction n30 with
  | zero => intro O K x2 x3 H locs ls cells slots hf; cases hf
  | succ n30 ih =>
    have B278 : ∀ (O : XO) (K : RK) (x3 : Int32) (y0 : Int32) (H : Heap) (locs : List Loc) (ls : Array Slot) (cells slots : Nat), f_L_law_b278 (f_L_law_l30 L xs n30) L xs O K x3 y0 = some 1 → WH D cI cR (fun q : Nat => s.heap.size ≤ q) (xws cI cR ad O K) s H locs → lv_has ls 13 [(0, .ref b), (1, .ref (ad 0)), (3, .int x3)] → cells + (n30 + 0) ≤ 2000 → slots + (6 * n30 + 0) ≤ 12000 → W p l e room_1 s m #[Value.ref b] below meth c H locs cells slots Q (F0 m 278 ls [.int y0]) := by
      intro O K x3 y0 H locs ls cells slots hf hw hl hc1 hc2
      unfold f_L_law_b278 at hf
      refine lv_istore_n (lv' := [(2, .int y0), (0, .ref b), (1, .ref (ad 0)), (3, .int x3)]) hx hb dL_law_278 rfl hl (by decide) rfl (fun ls hl => ?_)
      obtain ⟨v1, hv1, hf⟩ := nmE hf
      refine lv_iinc (v := v1) (lv' := [(3, .int v1), (2, .int y0), (0, .ref b), (1, .ref (ad 0))]) hx hb dL_law_279 hl (k := 3) rfl (by rw [hv1]; rfl) (by decide) rfl (fun ls hl => ?_)
      refine lv_goto (tgt := 30) hx hb dL_law_282 (by decide) ?_
      exact ih O K y0 v1 H locs ls _ _ hf hw (lv_sub hl [2, 3, 1, 0] rfl) (by omega) (by omega)
    have B277 : ∀ (O : XO) (K : RK) (x3 : Int32) (H : Heap) (locs : List Loc) (ls : Array Slot) (cells slots : Nat), f_L_law_b277 (f_L_law_l30 L xs n30) L xs O K x3 = some 1 → WH D cI cR (fun q : Nat => s.heap.size ≤ q) (xws cI cR ad O K) s H locs → lv_has ls 13 [(0, .ref b), (1, .ref (ad 0)), (3, .int x3)] → cells + (n30 + 0) ≤ 2000 → slots + (6 * n30 + 0) ≤ 12000 → W p l e room_1 s m #[Value.ref b] below meth c H locs cells slots Q (F0 m 277 ls []) := by
      intro O K x3 H locs ls cells slots hf hw hl hc1 hc2
      unfold f_L_law_b277 at hf
      refine lv_iconst (v := 0) hx hb dL_law_277 (by decide) ?_
      exact B278 O K x3 0 H locs ls _ _ hf hw (lv_sub hl [0, 1, 2] rfl) (by omega) (by omega)
    have B273 : ∀ (O : XO) (K : RK) (x3 : Int32) (H : Heap) (locs : List Loc) (ls : Array Slot) (cells slots : Nat), f_L_law_b273 (f_L_law_l30 L xs n30) L xs O K x3 = some 1 → WH D cI cR (fun q : Nat => s.heap.size ≤ q) (xws cI cR ad O K) s H locs → lv_has ls 13 [(0, .ref b), (1, .ref (ad 0)), (3, .int x3)] → cells + (n30 + 0) ≤ 2000 → slots + (6 * n30 + 0) ≤ 12000 → W p l e room_1 s m #[Value.ref b] below meth c H locs cells slots Q (F0 m 273 ls []) := by
      intro O K x3 H locs ls cells slots hf hw hl hc1 hc2
      unfold f_L_law_b273 at hf
      refine lv_iconst (v := 1) hx hb dL_law_273 (by decide) ?_
      refine lv_goto (tgt := 278) hx hb dL_law_274 (by decide) ?_
      exact B278 O K x3 1 H locs ls _ _ hf hw (lv_sub hl [0, 1, 2] rfl) (by omega) (by omega)
    have B252 : ∀ (O : XO) (K : RK) (x3 : Int32) (H : Heap) (locs : List Loc) (ls : Array Slot) (cells slots : Nat), f_L_law_b252 (f_L_law_l30 L xs n30) L xs O K x3 = some 1 → WH D cI cR (fun q : Nat => s.heap.size ≤ q) (xws cI cR ad O K) s H locs → lv_has ls 13 [(0, .ref b), (1, .ref (ad 0)), (3, .int x3)] → cells + (n30 + 0) ≤ 2000 → slots + (6 * n30 + 0) ≤ 12000 → W p l e room_1 s m #[Value.ref b] below meth c H locs cells slots Q (F0 m 252 ls []) := by
      intro O K x3 H locs ls cells slots hf hw hl hc1 hc2
      unfold f_L_law_b252 at hf
      refine lv_iload_n hx hb dL_law_252 rfl (lv_at hl 2 rfl) ?_
      refine lv_bipush (v := 23) hx hb dL_law_253 (by decide) ?_
      refine lv_irem hx hb dL_law_255 (by decide) ?_
      refine lv_bipush (v := 14) hx hb dL_law_256 (by decide) ?_
      refine lv_icmp_ne (tgt := 273) hx hb dL_law_258 (by decide) (fun hc => ?_) (fun hc => ?_)
      · have hf := iteF hf hc
        exact B273 O K x3 H locs ls _ _ hf hw (lv_sub hl [0, 1, 2] rfl) (by omega) (by omega)
      · have hf := iteT hf hc
        refine lv_aload_n hx hb dL_law_261 rfl (lv_at hl 1 rfl) ?_
        obtain ⟨r1, O2, hr2, hf⟩ := bnd2S hf
        refine q_callV (rest := []) (st1 := [.int r1]) [] ⟨hx, hb, hml, hown, hts⟩ (c_X5_keep hr2) (cwV 0 hts gL_law_X5_keep rfl rfl rfl (by decide +kernel) ⟨Nat.le_of_ble_eq_true rfl, Nat.le_of_ble_eq_true rfl⟩) hw xa_0 rfl rfl hl.1 rfl (Nat.le_of_ble_eq_true rfl) dL_law_262 (lq_room0 hc1 hc2) rfl (fun H locs hw => ?_)
        refine lv_aload_n hx hb dL_law_265 rfl (lv_at hl 1 rfl) ?_
        refine lv_iconst (v := 0) hx hb dL_law_266 (by decide) ?_
        obtain ⟨r3, hr3, hf⟩ := bndS hf
        refine q_callV (rest := [.int r1]) (st1 := [.int r3, .int r1]) [.int 0] ⟨hx, hb, hml, hown, hts⟩ (c_X5_count hr3) (cwV 1 hts gL_law_X5_count rfl rfl rfl (by decide +kernel) ⟨Nat.le_of_ble_eq_true rfl, Nat.le_of_ble_eq_true rfl⟩) hw xa_0 rfl rfl hl.1 rfl (Nat.le_of_ble_eq_true rfl) dL_law_267 (lq_room0 hc1 hc2) rfl (fun H locs hw => ?_)
        refine lv_icmp_ne (tgt := 277) hx hb dL_law_270 (by decide) (fun hc => ?_) (fun hc => ?_)
        · have hf := iteF hf hc
          exact B277 O2 K x3 H locs ls _ _ hf hw (lv_sub hl [0, 1, 2] rfl) (by omega) (by omega)
        · have hf := iteT hf hc
          exact B273 O2 K x3 H locs ls _ _ hf hw (lv_sub hl [0, 1, 2] rfl) (by omega) (by omega)
    have B198 : ∀ (O : XO) (K : RK) (x2 : Int32) (x3 : Int32) (x4 : Int32) (x5 : Int32) (H : Heap) (locs : List Loc) (ls : Array Slot) (cells slots : Nat), f_L_law_b198 (f_L_law_l30 L xs n30) L xs O K x2 x3 x4 x5 = some 1 → WH D cI cR (fun q : Nat => s.heap.size ≤ q) (xws cI cR ad O K) s H locs → lv_has ls 13 [(0, .ref b), (1, .ref (ad 0)), (2, .int x2), (3, .int x3), (4, .int x4), (5, .int x5)] → cells + (n30 + 1) ≤ 2000 → slots + (6 * n30 + 6) ≤ 12000 → W p l e room_1 s m #[Value.ref b] below meth c H locs cells slots Q (F0 m 198 ls []) := by
      intro O K x2 x3 x4 x5 H locs ls cells slots hf hw hl hc1 hc2
      unfold f_L_law_b198 at hf
      refine lv_aload_n hx hb dL_law_198 rfl (lv_at hl 1 rfl) ?_
      refine lv_iconst (v := 1) hx hb dL_law_199 (by decide) ?_
      obtain ⟨r1, hr1, hf⟩ := bndS hf
      refine q_callV (rest := []) (st1 := [.int r1]) [.int 1] ⟨hx, hb, hml, hown, hts⟩ (c_X5_count hr1) (cwV 1 hts gL_law_X5_count rfl rfl rfl (by decide +kernel) ⟨Nat.le_of_ble_eq_true rfl, Nat.le_of_ble_eq_true rfl⟩) hw xa_0 rfl rfl hl.1 rfl (Nat.le_of_ble_eq_true rfl) dL_law_200 (lq_room0 hc1 hc2) rfl (fun H locs hw => ?_)
      refine lv_istore (lv' := [(10, .int r1), (0, .ref b), (1, .ref (ad 0)), (2, .int x2), (3, .int x3), (4, .int x4), (5, .int x5)]) hx hb dL_law_203 hl (by decide) rfl (fun ls hl => ?_)
      refine lv_iload_n hx hb dL_law_205 rfl (lv_at hl 3 rfl) ?_
      refine lv_if_eq (tgt := 277) hx hb dL_law_206 (by decide) (fun hc => ?_) (fun hc => ?_)
      · have hf := iteT hf hc
        exact B277 O K x3 H locs ls _ _ hf hw (lv_sub hl [1, 2, 4] rfl) (by omega) (by omega)
      · have hf := iteF hf hc
        refine lv_aload_n hx hb dL_law_209 rfl (lv_at hl 2 rfl) ?_
        obtain ⟨r2, hr2, hf⟩ := bndS hf
        refine q_runM (mc := 1) (ms := 6) (w' := xws cI cR ad O K) (st1 := [.int r2]) (va_runS (As := [.ref (ad 0)]) (rest := []) ⟨hx, hb, hml, hown, hts⟩ (c_L_holds hr2) (va_cwS 1 hts gL_law_L_holds rfl rfl rfl (by decide +kernel) ⟨Nat.le_of_ble_eq_true rfl, Nat.le_of_ble_eq_true rfl⟩) (x_preS hw hO hA) rfl rfl hl.1 rfl (lv_room (Nat.le_of_ble_eq_true rfl)) dL_law_210 (lq_room1 hc1 hc2)) hw rfl (fun H locs hw => ?_)
        have hc1 : cells + 1 + n30 ≤ 2000 := by omega
        have hc2 : slots + 6 + 6 * n30 ≤ 12000 := by omega
        refine lv_if_eq (tgt := 277) hx hb dL_law_213 (by decide) (fun hc => ?_) (fun hc => ?_)
        · have hf := iteT hf hc
          exact B277 O K x3 H locs ls _ _ hf hw (lv_sub hl [1, 2, 4] rfl) (by omega) (by omega)
        · have hf := iteF hf hc
          refine lv_iload_n hx hb dL_law_216 rfl (lv_at hl 4 rfl) ?_
          refine lv_iconst (v := 3) hx hb dL_law_217 (by decide) ?_
          refine lv_irem hx hb dL_law_218 (by decide) ?_
          refine lv_iconst (v := 1) hx hb dL_law_219 (by decide) ?_
          refine lv_icmp_ne (tgt := 252) hx hb dL_law_220 (by decide) (fun hc => ?_) (fun hc => ?_)
          · have hf := iteF hf hc
            exact B252 O K x3 H locs ls _ _ hf hw (lv_sub hl [1, 2, 4] rfl) (by omega) (by omega)
          · have hf := iteT hf hc
            refine lv_iload hx hb dL_law_223 (lv_at hl 0 rfl) ?_
            refine lv_if_eq (tgt := 252) hx hb dL_law_225 (by decide) (fun hc => ?_) (fun hc => ?_)
            · have hf := iteT hf hc
              exact B252 O K x3 H locs ls _ _ hf hw (lv_sub hl [1, 2, 4] rfl) (by omega) (by omega)
            · have hf := iteF hf hc
              refine lv_aload_n hx hb dL_law_228 rfl (lv_at hl 2 rfl) ?_
              refine lv_iload hx hb dL_law_229 (lv_at hl 5 rfl) ?_
              refine lv_iconst (v := 5) hx hb dL_law_231 (by decide) ?_
              refine lv_ishr hx hb dL_law_232 ?_
              refine lv_iload hx hb dL_law_233 (lv_at hl 0 rfl) ?_
              obtain ⟨hgr3, hf⟩ := gdE hf
              obtain ⟨r3, hr3, hf⟩ := nmE hf
              refine q_callS (rest := [.ref (ad 0)]) (st1 := [.int r3, .ref (ad 0)]) [.int (x4 >>> (5 &&& 31)), .int r1] ⟨hx, hb, hml, hown, hts⟩ (c_L_up hgr3 hr3) (va_cwS 2 hts gL_law_L_up rfl rfl rfl (by decide +kernel) ⟨Nat.le_of_ble_eq_true rfl, Nat.le_of_ble_eq_true rfl⟩) hw rfl hl.1 rfl (Nat.le_of_ble_eq_true rfl) dL_law_235 (lq_room0 hc1 hc2) rfl (fun H locs hw => ?_)
              refine lv_iload hx hb dL_law_238 (lv_at hl 6 rfl) ?_
              refine lv_iconst (v := 5) hx hb dL_law_240 (by decide) ?_
              refine lv_ishr hx hb dL_law_241 ?_
              refine lv_iconst (v := 3) hx hb dL_law_242 (by decide) ?_
              obtain ⟨hgr4, hf⟩ := gdE hf
              obtain ⟨r4, hr4, hf⟩ := nmE hf
              refine q_callS (rest := [.int r3, .ref (ad 0)]) (st1 := [.int r4, .int r3, .ref (ad 0)]) [.int (x5 >>> (5 &&& 31)), .int 3] ⟨hx, hb, hml, hown, hts⟩ (c_L_up hgr4 hr4) (va_cwS 2 hts gL_law_L_up rfl rfl rfl (by decide +kernel) ⟨Nat.le_of_ble_eq_true rfl, Nat.le_of_ble_eq_true rfl⟩) hw rfl hl.1 rfl (Nat.le_of_ble_eq_true rfl) dL_law_243 (lq_room0 hc1 hc2) rfl (fun H locs hw => ?_)
              obtain ⟨r5, O6, K7, hr7, hf⟩ := bnd3S hf
              refine q_callS (rest := []) (st1 := [.int r5]) [.ref (ad 0), .int r3, .int r4] ⟨hx, hb, hml, hown, hts⟩ (c_L_isAhead hr7) (va_cwS 3 hts gL_law_L_isAhead rfl rfl rfl (by decide +kernel) ⟨Nat.le_of_ble_eq_true rfl, Nat.le_of_ble_eq_true rfl⟩) hw rfl hl.1 rfl (Nat.le_of_ble_eq_true rfl) dL_law_246 (lq_room0 hc1 hc2) rfl (fun H locs hw => ?_)
              refine lv_if_eq (tgt := 277) hx hb dL_law_249 (by decide) (fun hc => ?_) (fun hc => ?_)
              · have hf := iteT hf hc
                exact B277 O6 K7 x3 H locs ls _ _ hf hw (lv_sub hl [1, 2, 4] rfl) (by omega) (by omega)
              · have hf := iteF hf hc
                exact B252 O6 K7 x3 H locs ls _ _ hf hw (lv_sub hl [1, 2, 4] rfl) (by omega) (by omega)
    have B197 : ∀ (O : XO) (K : RK) (x3 : Int32) (x4 : Int32) (x5 : Int32) (y0 : Int32) (H : Heap) (locs : List Loc) (ls : Array Slot) (cells slots : Nat), f_L_law_b197 (f_L_law_l30 L xs n30) L xs O K x3 x4 x5 y0 = some 1 → WH D cI cR (fun q : Nat => s.heap.size ≤ q) (xws cI cR ad O K) s H locs → lv_has ls 13 [(0, .ref b), (1, .ref (ad 0)), (3, .int x3), (4, .int x4), (5, .int x5)] → cells + (n30 + 1) ≤ 2000 → slots + (6 * n30 + 6) ≤ 12000 → W p l e room_1 s m #[Value.ref b] below meth c H locs cells slots Q (F0 m 197 ls [.int y0]) := by
      intro O K x3 x4 x5 y0 H locs ls cells slots hf hw hl hc1 hc2
      unfold f_L_law_b197 at hf
      refine lv_istore_n (lv' := [(2, .int y0), (0, .ref b), (1, .ref (ad 0)), (3, .int x3), (4, .int x4), (5, .int x5)]) hx hb dL_law_197 rfl hl (by decide) rfl (fun ls hl => ?_)
      exact B198 O K y0 x3 x4 x5 H locs ls _ _ hf hw (lv_sub hl [1, 2, 0, 3, 4, 5] rfl) (by omega) (by omega)
    have B196 : ∀ (O : XO) (K : RK) (x3 : Int32) (x4 : Int32) (x5 : Int32) (H : Heap) (locs : List Loc) (ls : Array Slot) (cells slots : Nat), f_L_law_b196 (f_L_law_l30 L xs n30) L xs O K x3 x4 x5 = some 1 → WH D cI cR (fun q : Nat => s.heap.size ≤ q) (xws cI cR ad O K) s H locs → lv_has ls 13 [(0, .ref b), (1, .ref (ad 0)), (3, .int x3), (4, .int x4), (5, .int x5)] → cells + (n30 + 1) ≤ 2000 → slots + (6 * n30 + 6) ≤ 12000 → W p l e room_1 s m #[Value.ref b] below meth c H locs cells slots Q (F0 m 196 ls []) := by
      intro O K x3 x4 x5 H locs ls cells slots hf hw hl hc1 hc2
      unfold f_L_law_b196 at hf
      refine lv_iconst (v := 0) hx hb dL_law_196 (by decide) ?_
      exact B197 O K x3 x4 x5 0 H locs ls _ _ hf hw (lv_sub hl [0, 1, 2, 3, 4] rfl) (by omega) (by omega)
    have B119 : ∀ (O : XO) (K : RK) (x3 : Int32) (x4 : Int32) (x5 : Int32) (x6 : Int64) (x9 : Int32) (y0 : Int32) (H : Heap) (locs : List Loc) (ls : Array Slot) (cells slots : Nat), f_L_law_b119 (f_L_law_l30 L xs n30) L xs O K x3 x4 x5 x6 x9 y0 = some 1 → WH D cI cR (fun q : Nat => s.heap.size ≤ q) (xws cI cR ad O K) s H locs → lv_has ls 13 [(0, .ref b), (1, .ref (ad 0)), (3, .int x3), (4, .int x4), (5, .int x5), (6, .long x6), (9, .int x9)] → cells + (n30 + 1) ≤ 2000 → slots + (6 * n30 + 6) ≤ 12000 → W p l e room_1 s m #[Value.ref b] below meth c H locs cells slots Q (F0 m 119 ls [.int y0]) := by
      intro O K x3 x4 x5 x6 x9 y0 H locs ls cells slots hf hw hl hc1 hc2
      unfold f_L_law_b119 at hf
      refine lv_istore_n (lv' := [(2, .int y0), (0, .ref b), (1, .ref (ad 0)), (3, .int x3), (4, .int x4), (5, .int x5), (6, .long x6), (9, .int x9)]) hx hb dL_law_119 rfl hl (by decide) rfl (fun ls hl => ?_)
      refine lv_iload_n hx hb dL_law_120 rfl (lv_at hl 0 rfl) ?_
      refine lv_if_eq (tgt := 198) hx hb dL_law_121 (by decide) (fun hc => ?_) (fun hc => ?_)
      · have hf := iteT hf hc
        exact B198 O K y0 x3 x4 x5 H locs ls _ _ hf hw (lv_sub hl [1, 2, 0, 3, 4, 5] rfl) (by omega) (by omega)
      · have hf := iteF hf hc
        refine lv_iload hx hb dL_law_124 (lv_at hl 4 rfl) ?_
        refine lv_bipush (v := 8) hx hb dL_law_126 (by decide) ?_
        refine lv_ishr hx hb dL_law_128 ?_
        refine lv_iconst (v := 3) hx hb dL_law_129 (by decide) ?_
        refine lv_iand hx hb dL_law_130 ?_
        refine lv_if_ne (tgt := 198) hx hb dL_law_131 (by decide) (fun hc => ?_) (fun hc => ?_)
        · have hf := iteF hf hc
          exact B198 O K y0 x3 x4 x5 H locs ls _ _ hf hw (lv_sub hl [1, 2, 0, 3, 4, 5] rfl) (by omega) (by omega)
        · have hf := iteT hf hc
          refine lv_aload_n hx hb dL_law_134 rfl (lv_at hl 2 rfl) ?_
          obtain ⟨r1, hr1, hf⟩ := bndS hf
          refine q_callS (rest := []) (st1 := [.long r1]) [.ref (ad 0)] ⟨hx, hb, hml, hown, hts⟩ (c_L_looks hr1) (va_cwS 1 hts gL_law_L_looks rfl rfl rfl (by decide +kernel) ⟨Nat.le_of_ble_eq_true rfl, Nat.le_of_ble_eq_true rfl⟩) hw rfl hl.1 rfl (Nat.le_of_ble_eq_true rfl) dL_law_135 (lq_room0 hc1 hc2) rfl (fun H locs hw => ?_)
          refine lv_lstore (lv' := [(10, .long r1), (2, .int y0), (0, .ref b), (1, .ref (ad 0)), (3, .int x3), (4, .int x4), (5, .int x5), (6, .long x6), (9, .int x9)]) hx hb dL_law_138 hl (by decide) rfl (fun ls hl => ?_)
          refine lv_aload_n hx hb dL_law_140 rfl (lv_at hl 3 rfl) ?_
          refine lv_bipush (v := 21) hx hb dL_law_141 (by decide) ?_
          obtain ⟨r2, hr2, hf⟩ := bndS hf
          refine q_callV (rest := []) (st1 := [.int r2]) [.int 21] ⟨hx, hb, hml, hown, hts⟩ (c_X5_count hr2) (cwV 1 hts gL_law_X5_count rfl rfl rfl (by decide +kernel) ⟨Nat.le_of_ble_eq_true rfl, Nat.le_of_ble_eq_true rfl⟩) hw xa_0 rfl rfl hl.1 rfl (Nat.le_of_ble_eq_true rfl) dL_law_143 (lq_room0 hc1 hc2) rfl (fun H locs hw => ?_)
          refine lv_iconst (v := 1) hx hb dL_law_146 (by decide) ?_
          refine lv_isub hx hb dL_law_147 ?_
          refine lv_istore (lv' := [(12, .int (r2 - 1)), (10, .long r1), (2, .int y0), (0, .ref b), (1, .ref (ad 0)), (3, .int x3), (4, .int x4), (5, .int x5), (6, .long x6), (9, .int x9)]) hx hb dL_law_148 hl (by decide) rfl (fun ls hl => ?_)
          refine lv_aload_n hx hb dL_law_150 rfl (lv_at hl 4 rfl) ?_
          obtain ⟨r3, O4, K5, hr5, hf⟩ := bnd3S hf
          refine q_callV (rest := []) (st1 := [.int r3]) [] ⟨hx, hb, hml, hown, hts⟩ (c_X5_undo hr5) (cwV 0 hts gL_law_X5_undo rfl rfl rfl (by decide +kernel) ⟨Nat.le_of_ble_eq_true rfl, Nat.le_of_ble_eq_true rfl⟩) hw xa_0 rfl rfl hl.1 rfl (Nat.le_of_ble_eq_true rfl) dL_law_151 (lq_room0 hc1 hc2) rfl (fun H locs hw => ?_)
          refine lv_iload hx hb dL_law_154 (lv_at hl 0 rfl) ?_
          refine lv_icmp_ne (tgt := 196) hx hb dL_law_156 (by decide) (fun hc => ?_) (fun hc => ?_)
          · have hf := iteF hf hc
            exact B196 O4 K5 x3 x4 x5 H locs ls _ _ hf hw (lv_sub hl [3, 4, 5, 6, 7] rfl) (by omega) (by omega)
          · have hf := iteT hf hc
            refine lv_aload_n hx hb dL_law_159 rfl (lv_at hl 4 rfl) ?_
            obtain ⟨r6, hr6, hf⟩ := bndS hf
            refine q_callS (rest := []) (st1 := [.long r6]) [.ref (ad 0)] ⟨hx, hb, hml, hown, hts⟩ (c_L_looks hr6) (va_cwS 1 hts gL_law_L_looks rfl rfl rfl (by decide +kernel) ⟨Nat.le_of_ble_eq_true rfl, Nat.le_of_ble_eq_true rfl⟩) hw rfl hl.1 rfl (Nat.le_of_ble_eq_true rfl) dL_law_160 (lq_room0 hc1 hc2) rfl (fun H locs hw => ?_)
            refine lv_lload hx hb dL_law_163 (lv_at hl 8 rfl) ?_
            refine W.lcmp hx hb dL_law_165 ?_
            refine lv_if_ne (tgt := 196) hx hb dL_law_166 (by decide) (fun hc => ?_) (fun hc => ?_)
            · have hf := iteF hf hc
              exact B196 O4 K5 x3 x4 x5 H locs ls _ _ hf hw (lv_sub hl [3, 4, 5, 6, 7] rfl) (by omega) (by omega)
            · have hf := iteT hf hc
              refine lv_aload_n hx hb dL_law_169 rfl (lv_at hl 4 rfl) ?_
              refine lv_iload hx hb dL_law_170 (lv_at hl 6 rfl) ?_
              refine lv_iload hx hb dL_law_172 (lv_at hl 7 rfl) ?_
              obtain ⟨r7, O8, K9, hr9, hf⟩ := bnd3S hf
              refine q_run (w' := xws cI cR ad O8 K9) (st1 := [.int r7]) (va_runS (As := [.ref (ad 0), .int x4, .int x5]) (rest := []) ⟨hx, hb, hml, hown, hts⟩ (c_L_act hr9) (va_cwS 3 hts gL_law_L_act rfl rfl rfl (by decide +kernel) ⟨Nat.le_of_ble_eq_true rfl, Nat.le_of_ble_eq_true rfl⟩) (x_preS hw hO hA) rfl rfl hl.1 rfl (lv_room (Nat.le_of_ble_eq_true rfl)) dL_law_174 (lq_room0 hc1 hc2)) hw rfl (fun H locs hw => ?_)
              refine lv_iload hx hb dL_law_177 (lv_at hl 9 rfl) ?_
              refine lv_icmp_ne (tgt := 196) hx hb dL_law_179 (by decide) (fun hc => ?_) (fun hc => ?_)
              · have hf := iteF hf hc
                exact B196 O8 K9 x3 x4 x5 H locs ls _ _ hf hw (lv_sub hl [3, 4, 5, 6, 7] rfl) (by omega) (by omega)
              · have hf := iteT hf hc
                refine lv_aload_n hx hb dL_law_182 rfl (lv_at hl 4 rfl) ?_
                obtain ⟨r10, hr10, hf⟩ := bndS hf
                refine q_callS (rest := []) (st1 := [.long r10]) [.ref (ad 0)] ⟨hx, hb, hml, hown, hts⟩ (c_L_looks hr10) (va_cwS 1 hts gL_law_L_looks rfl rfl rfl (by decide +kernel) ⟨Nat.le_of_ble_eq_true rfl, Nat.le_of_ble_eq_true rfl⟩) hw rfl hl.1 rfl (Nat.le_of_ble_eq_true rfl) dL_law_183 (lq_room0 hc1 hc2) rfl (fun H locs hw => ?_)
                refine lv_lload hx hb dL_law_186 (lv_at hl 1 rfl) ?_
                refine W.lcmp hx hb dL_law_188 ?_
                refine lv_if_ne (tgt := 196) hx hb dL_law_189 (by decide) (fun hc => ?_) (fun hc => ?_)
                · have hf := iteF hf hc
                  exact B196 O8 K9 x3 x4 x5 H locs ls _ _ hf hw (lv_sub hl [3, 4, 5, 6, 7] rfl) (by omega) (by omega)
                · have hf := iteT hf hc
                  refine lv_iconst (v := 1) hx hb dL_law_192 (by decide) ?_
                  refine lv_goto (tgt := 197) hx hb dL_law_193 (by decide) ?_
                  exact B197 O8 K9 x3 x4 x5 1 H locs ls _ _ hf hw (lv_sub hl [3, 4, 5, 6, 7] rfl) (by omega) (by omega)
    have B118 : ∀ (O : XO) (K : RK) (x3 : Int32) (x4 : Int32) (x5 : Int32) (x6 : Int64) (x9 : Int32) (H : Heap) (locs : List Loc) (ls : Array Slot) (cells slots : Nat), f_L_law_b118 (f_L_law_l30 L xs n30) L xs O K x3 x4 x5 x6 x9 = some 1 → WH D cI cR (fun q : Nat => s.heap.size ≤ q) (xws cI cR ad O K) s H locs → lv_has ls 13 [(0, .ref b), (1, .ref (ad 0)), (3, .int x3), (4, .int x4), (5, .int x5), (6, .long x6), (9, .int x9)] → cells + (n30 + 1) ≤ 2000 → slots + (6 * n30 + 6) ≤ 12000 → W p l e room_1 s m #[Value.ref b] below meth c H locs cells slots Q (F0 m 118 ls []) := by
      intro O K x3 x4 x5 x6 x9 H locs ls cells slots hf hw hl hc1 hc2
      unfold f_L_law_b118 at hf
      refine lv_iconst (v := 0) hx hb dL_law_118 (by decide) ?_
      exact B119 O K x3 x4 x5 x6 x9 0 H locs ls _ _ hf hw (lv_sub hl [0, 1, 2, 3, 4, 5, 6] rfl) (by omega) (by omega)
    have B111 : ∀ (O : XO) (K : RK) (x3 : Int32) (x4 : Int32) (x5 : Int32) (x6 : Int64) (x9 : Int32) (y0 : Int32) (y1 : Int32) (H : Heap) (locs : List Loc) (ls : Array Slot) (cells slots : Nat), f_L_law_b111 (f_L_law_l30 L xs n30) L xs O K x3 x4 x5 x6 x9 y0 y1 = some 1 → WH D cI cR (fun q : Nat => s.heap.size ≤ q) (xws cI cR ad O K) s H locs → lv_has ls 13 [(0, .ref b), (1, .ref (ad 0)), (3, .int x3), (4, .int x4), (5, .int x5), (6, .long x6), (9, .int x9)] → cells + (n30 + 1) ≤ 2000 → slots + (6 * n30 + 6) ≤ 12000 → W p l e room_1 s m #[Value.ref b] below meth c H locs cells slots Q (F0 m 111 ls [.int y0, .int y1]) := by
      intro O K x3 x4 x5 x6 x9 y0 y1 H locs ls cells slots hf hw hl hc1 hc2
      unfold f_L_law_b111 at hf
      refine lv_icmp_ne (tgt := 118) hx hb dL_law_111 (by decide) (fun hc => ?_) (fun hc => ?_)
      · have hf := iteF hf hc
        exact B118 O K x3 x4 x5 x6 x9 H locs ls _ _ hf hw (lv_sub hl [0, 1, 2, 3, 4, 5, 6] rfl) (by omega) (by omega)
      · have hf := iteT hf hc
        refine lv_iconst (v := 1) hx hb dL_law_114 (by decide) ?_
        refine lv_goto (tgt := 119) hx hb dL_law_115 (by decide) ?_
        exact B119 O K x3 x4 x5 x6 x9 1 H locs ls _ _ hf hw (lv_sub hl [0, 1, 2, 3, 4, 5, 6] rfl) (by omega) (by omega)
    intro O K x2 x3 H locs ls cells slots hf hw hl hc1 hc2
    simp only [f_L_law_l30] at hf
    refine lv_iload_n hx hb dL_law_30 rfl (lv_at hl 3 rfl) ?_
    refine lv_bipush (v := 66) hx hb dL_law_31 (by decide) ?_
    refine lv_icmp_ge (tgt := 285) hx hb dL_law_33 (by decide) (fun hc => ?_) (fun hc => ?_)
    · have hf := iteT hf hc
      refine lv_iload_n hx hb dL_law_285 rfl (lv_at hl 2 rfl) ?_
      obtain ⟨hg, hf⟩ := gdE hf
      cases hf
      exact hEnd _ H locs ls cells slots hw (by omega) (by omega)
    · have hf := iteF hf hc
      refine lv_iload_n hx hb dL_law_36 rfl (lv_at hl 2 rfl) ?_
      refine lv_if_eq (tgt := 285) hx hb dL_law_37 (by decide) (fun hc => ?_) (fun hc => ?_)
      · have hf := iteT hf hc
        refine lv_iload_n hx hb dL_law_285 rfl (lv_at hl 2 rfl) ?_
        obtain ⟨hg, hf⟩ := gdE hf
        cases hf
        exact hEnd _ H locs ls cells slots hw (by omega) (by omega)
      · have hf := iteF hf hc
        refine lv_aload_n hx hb dL_law_40 rfl (lv_at hl 0 rfl) ?_
        refine lv_iconst (v := 2) hx hb dL_law_41 (by decide) ?_
        refine lv_iload_n hx hb dL_law_42 rfl (lv_at hl 3 rfl) ?_
        refine lv_imul hx hb dL_law_43 ?_
        obtain ⟨hgr1, hf⟩ := gdE hf
        obtain ⟨r1, hr1, hf⟩ := nmE hf
        refine q_run (w' := xws cI cR ad O K) (st1 := [.int r1]) (va_runS (As := [.ref b, .int (2 * x3)]) (rest := []) ⟨hx, hb, hml, hown, hts⟩ (c_L_cell hL hgr1 hr1) (va_cwS 2 hts gL_law_L_cell rfl rfl rfl (by decide +kernel) ⟨Nat.le_of_ble_eq_true rfl, Nat.le_of_ble_eq_true rfl⟩) (y_preS hw hY) rfl rfl hl.1 rfl (lv_room (Nat.le_of_ble_eq_true rfl)) dL_law_44 (lq_room0 hc1 hc2)) hw rfl (fun H locs hw => ?_)
        refine lv_istore (lv' := [(4, .int r1), (0, .ref b), (1, .ref (ad 0)), (2, .int x2), (3, .int x3)]) hx hb dL_law_47 hl (by decide) rfl (fun ls hl => ?_)
        refine lv_aload_n hx hb dL_law_49 rfl (lv_at hl 1 rfl) ?_
        refine lv_iconst (v := 2) hx hb dL_law_50 (by decide) ?_
        refine lv_iload_n hx hb dL_law_51 rfl (lv_at hl 4 rfl) ?_
        refine lv_imul hx hb dL_law_52 ?_
        refine lv_iconst (v := 1) hx hb dL_law_53 (by decide) ?_
        refine lv_iadd hx hb dL_law_54 ?_
        obtain ⟨hgr2, hf⟩ := gdE hf
        obtain ⟨r2, hr2, hf⟩ := nmE hf
        refine q_run (w' := xws cI cR ad O K) (st1 := [.int r2]) (va_runS (As := [.ref b, .int ((2 * x3) + 1)]) (rest := []) ⟨hx, hb, hml, hown, hts⟩ (c_L_cell hL hgr2 hr2) (va_cwS 2 hts gL_law_L_cell rfl rfl rfl (by decide +kernel) ⟨Nat.le_of_ble_eq_true rfl, Nat.le_of_ble_eq_true rfl⟩) (y_preS hw hY) rfl rfl hl.1 rfl (lv_room (Nat.le_of_ble_eq_true rfl)) dL_law_55 (lq_room0 hc1 hc2)) hw rfl (fun H locs hw => ?_)
        refine lv_istore (lv' := [(5, .int r2), (4, .int r1), (0, .ref b), (1, .ref (ad 0)), (2, .int x2), (3, .int x3)]) hx hb dL_law_58 hl (by decide) rfl (fun ls hl => ?_)
        refine lv_aload_n hx hb dL_law_60 rfl (lv_at hl 3 rfl) ?_
        obtain ⟨r3, hr3, hf⟩ := bndS hf
        refine q_callS (rest := []) (st1 := [.long r3]) [.ref (ad 0)] ⟨hx, hb, hml, hown, hts⟩ (c_L_looks hr3) (va_cwS 1 hts gL_law_L_looks rfl rfl rfl (by decide +kernel) ⟨Nat.le_of_ble_eq_true rfl, Nat.le_of_ble_eq_true rfl⟩) hw rfl hl.1 rfl (Nat.le_of_ble_eq_true rfl) dL_law_61 (lq_room0 hc1 hc2) rfl (fun H locs hw => ?_)
        refine lv_lstore (lv' := [(6, .long r3), (5, .int r2), (4, .int r1), (0, .ref b), (1, .ref (ad 0)), (2, .int x2), (3, .int x3)]) hx hb dL_law_64 hl (by decide) rfl (fun ls hl => ?_)
        refine lv_aload_n hx hb dL_law_66 rfl (lv_at hl 4 rfl) ?_
        refine lv_bipush (v := 21) hx hb dL_law_67 (by decide) ?_
        obtain ⟨r4, hr4, hf⟩ := bndS hf
        refine q_callV (rest := []) (st1 := [.int r4]) [.int 21] ⟨hx, hb, hml, hown, hts⟩ (c_X5_count hr4) (cwV 1 hts gL_law_X5_count rfl rfl rfl (by decide +kernel) ⟨Nat.le_of_ble_eq_true rfl, Nat.le_of_ble_eq_true rfl⟩) hw xa_0 rfl rfl hl.1 rfl (Nat.le_of_ble_eq_true rfl) dL_law_69 (lq_room0 hc1 hc2) rfl (fun H locs hw => ?_)
        refine lv_istore (lv' := [(8, .int r4), (6, .long r3), (5, .int r2), (4, .int r1), (0, .ref b), (1, .ref (ad 0)), (2, .int x2), (3, .int x3)]) hx hb dL_law_72 hl (by decide) rfl (fun ls hl => ?_)
        refine lv_aload_n hx hb dL_law_74 rfl (lv_at hl 5 rfl) ?_
        refine lv_iload hx hb dL_law_75 (lv_at hl 3 rfl) ?_
        refine lv_iload hx hb dL_law_77 (lv_at hl 2 rfl) ?_
        obtain ⟨r5, O6, K7, hr7, hf⟩ := bnd3S hf
        refine q_run (w' := xws cI cR ad O6 K7) (st1 := [.int r5]) (va_runS (As := [.ref (ad 0), .int r1, .int r2]) (rest := []) ⟨hx, hb, hml, hown, hts⟩ (c_L_act hr7) (va_cwS 3 hts gL_law_L_act rfl rfl rfl (by decide +kernel) ⟨Nat.le_of_ble_eq_true rfl, Nat.le_of_ble_eq_true rfl⟩) (x_preS hw hO hA) rfl rfl hl.1 rfl (lv_room (Nat.le_of_ble_eq_true rfl)) dL_law_79 (lq_room0 hc1 hc2)) hw rfl (fun H locs hw => ?_)
        refine lv_istore (lv' := [(9, .int r5), (8, .int r4), (6, .long r3), (5, .int r2), (4, .int r1), (0, .ref b), (1, .ref (ad 0)), (2, .int x2), (3, .int x3)]) hx hb dL_law_82 hl (by decide) rfl (fun ls hl => ?_)
        refine lv_iload hx hb dL_law_84 (lv_at hl 0 rfl) ?_
        refine lv_if_lt (tgt := 118) hx hb dL_law_86 (by decide) (fun hc => ?_) (fun hc => ?_)
        · have hf := iteT hf hc
          exact B118 O6 K7 x3 r1 r2 r3 r5 H locs ls _ _ hf hw (lv_sub hl [5, 6, 8, 4, 3, 2, 0] rfl) (by omega) (by omega)
        · have hf := iteF hf hc
          refine lv_aload_n hx hb dL_law_89 rfl (lv_at hl 6 rfl) ?_
          refine lv_bipush (v := 21) hx hb dL_law_90 (by decide) ?_
          obtain ⟨r8, hr8, hf⟩ := bndS hf
          refine q_callV (rest := []) (st1 := [.int r8]) [.int 21] ⟨hx, hb, hml, hown, hts⟩ (c_X5_count hr8) (cwV 1 hts gL_law_X5_count rfl rfl rfl (by decide +kernel) ⟨Nat.le_of_ble_eq_true rfl, Nat.le_of_ble_eq_true rfl⟩) hw xa_0 rfl rfl hl.1 rfl (Nat.le_of_ble_eq_true rfl) dL_law_92 (lq_room0 hc1 hc2) rfl (fun H locs hw => ?_)
          refine lv_iload hx hb dL_law_95 (lv_at hl 1 rfl) ?_
          refine lv_bipush (v := 6) hx hb dL_law_97 (by decide) ?_
          refine lv_icmp_ge (tgt := 109) hx hb dL_law_99 (by decide) (fun hc => ?_) (fun hc => ?_)
          · have hf := iteT hf hc
            refine lv_bipush (v := 6) hx hb dL_law_109 (by decide) ?_
            exact B111 O6 K7 x3 r1 r2 r3 r5 6 r8 H locs ls _ _ hf hw (lv_sub hl [5, 6, 8, 4, 3, 2, 0] rfl) (by omega) (by omega)
          · have hf := iteF hf hc
            refine lv_iload hx hb dL_law_102 (lv_at hl 1 rfl) ?_
            refine lv_iconst (v := 1) hx hb dL_law_104 (by decide) ?_
            refine lv_iadd hx hb dL_law_105 ?_
            refine lv_goto (tgt := 111) hx hb dL_law_106 (by decide) ?_
            exact B111 O6 K7 x3 r1 r2 r3 r5 (r4 + 1) r8 H locs ls _ _ hf hw (lv_sub hl [5, 6, 8, 4, 3, 2, 0] rfl) (by omega) (by omega)
