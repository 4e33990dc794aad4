/-! methods that need something: what they ask beside their world; none of them throws here -/
def SA (n : String) (xs : Nat → Int32) (A : Nat → Prop) (U : State) (H : Heap) : Prop := ∃ a : Nat, va_Z "LaceRanks" n "[I" (.ref a) A U H ∧ va_X a 6 xs U H ∧ a < H.size ∧ ¬ A a
def saF : Nat → Int32 := fun k => match k with | 0 => 2 | 1 => 4 | 2 => 3 | 3 => 2 | 4 => 2 | _ => 10
def saL : Nat → Int32 := fun k => match k with | 0 => 0 | 1 => 0 | 2 => 0 | 3 => 1 | 4 => 1 | _ => 0
def saM : Nat → Int32 := fun k => match k with | 0 => 20 | 1 => 10 | 2 => 9 | 3 => 9 | 4 => 9 | _ => 99
/-- what lies outside the worlds: three rows of numbers -/
def OUT (A : Nat → Prop) (U : State) (H : Heap) : Prop := SA "SETTING_FIRST" saF A U H ∧ SA "SETTING_LEAST" saL A U H ∧ SA "SETTING_MOST" saM A U H
theorem SA.go {n : String} {xs : Nat → Int32} {A : Nat → Prop} {s U : State} {H : Heap} {locs : List Loc} (h : SA n xs A s s.heap) (hS : va_S A s.heap H locs) (hU : U.heap = H) (hW : s.WarmedH U.vm) : SA n xs A U U.heap := by
  obtain ⟨a, h1, h2, h3, h4⟩ := h
  rw [hU]
  exact ⟨a, va_Z.moved hW.alike (h1.kept (fun b hb hA => hS.2.1 b hb hA)), va_X.moved hW.alike (h2.kept (hS.2.1 a h3 h4)), Nat.lt_of_lt_of_le h3 hS.1, h4⟩
theorem OUT.go {A : Nat → Prop} {s U : State} {H : Heap} {locs : List Loc} (h : OUT A s s.heap) (hS : va_S A s.heap H locs) (hU : U.heap = H) (hW : s.WarmedH U.vm) : OUT A U U.heap := ⟨h.1.go hS hU hW, h.2.1.go hS hU hW, h.2.2.go hS hU hW⟩
theorem SA.same {n : String} {xs : Nat → Int32} {A : Nat → Prop} {u U : State} (h : SA n xs A u u.heap) (hU : U.heap = u.heap) (hv : u.vm = U.vm) : SA n xs A U U.heap := by
  have hal : u.vm.Alike U.vm := by rw [hv]; exact Vm.Alike.refl _
  obtain ⟨a, h1, h2, h3, h4⟩ := h
  rw [hU]
  exact ⟨a, va_Z.moved hal h1, va_X.moved hal h2, h3, h4⟩
theorem OUT.same {A : Nat → Prop} {u U : State} (h : OUT A u u.heap) (hU : U.heap = u.heap) (hv : u.vm = U.vm) : OUT A U U.heap := ⟨h.1.same hU hv, h.2.1.same hU hv, h.2.2.same hU hv⟩
def PX (D : va_G) (cI cR : ClassId) (A : Nat → Prop) (w : va_W) (U : State) : Prop := WB D cI cR A w U ∧ OUT A U U.heap ∧ ∀ q : Nat, U.heap.size ≤ q → A q
abbrev MO (l : Launch) (y : MethodName) (ws : List Cond) (fr lo mc ms : Nat) (D : va_G) (cI cR : ClassId) (A : Nat → Prop) (av : List Value) (w : va_W) (v : Option Value) (w' : va_W) : Prop := Met l y ws ({ frames := fr, cells := mc, slots := ms, locals := lo }) (va_Pc av (PX D cI cR A w)) (QV v D A w') mc ms A
theorem x_blind {D : va_G} {cI cR : ClassId} {A : Nat → Prop} {w : va_W} {av : List Value} : FrameBlind (va_Pc av (PX D cI cR A w)) := fun a U g mk h => ⟨h.1, (q_blind a U g mk ⟨h.1, h.2.1⟩).2, h.2.2.1.same (u := U) (U := U.calling g mk a) rfl rfl, h.2.2.2⟩
theorem x_start {D : va_G} {cI cR : ClassId} {A : Nat → Prop} {w : va_W} {av : List Value} {args : Array Value} {s : State} (h : va_Pc av (PX D cI cR A w) args s) : args = av.toArray ∧ WH D cI cR A w s s.heap [] ∧ OUT A s s.heap ∧ ∀ q : Nat, s.heap.size ≤ q → A q := ⟨h.1, (q_start ⟨h.1, h.2.1⟩).2, h.2.2.1, h.2.2.2⟩
section QX
variable {p : Program} {l : Launch} {e : Env} {R : Room} {s : State} {m : MethodId} {args : Array Value} {below : List Frame} {meth : Method} {c : Code} {H : Heap} {locs : List Loc} {cells slots : Nat} {Q : State → Prop}
variable {cc : ByteArray} {pc mc ms : Nat} {ls : Array Slot} {rest st0 st1 : List Value} {D : va_G} {cI cR : ClassId} {A : Nat → Prop} {a : Nat} {w w' : va_W}
theorem x_preS {av : List Value} (hw : WH D cI cR A w s H locs) (hO : OUT A s s.heap) (hA : ∀ q : Nat, s.heap.size ≤ q → A q) : PreS s H (va_Pc av (PX D cI cR A w)) av := ⟨x_blind, fun U hU hW => ⟨rfl, ((q_preS (av := av) hw).2 U hU hW).2, hO.go hw.2.2.2.1 hU hW, fun q hq => hA q (Nat.le_trans hw.2.2.2.1.1 (by rw [← hU]; exact hq))⟩⟩
theorem x_preV {C : String} {T : u_T} {N ci q0 b : Nat} {fs As : List Value} (hw : WH D cI cR A w s H locs) (hO : OUT A s s.heap) (hA : ∀ q : Nat, s.heap.size ≤ q → A q) (he : w[q0]? = some (b, .inr (ci, fs))) (hc : vwCl[ci]? = some (C, T, N)) : PreV s H C b (va_Pc (.ref b :: As) (PX D cI cR A w)) As := ⟨x_blind, va_recv hw.2.1 hw.1 (ci := ci) (q0 := q0) hc he, (x_preS (av := .ref b :: As) hw hO hA).2⟩
/-- such a call has run: on with its world; it may have made something -/
theorem q_runM {v : Option Value} {av : Array Value} (hr : va_Run p l e R s m args below meth c H locs cells slots mc ms (F0 m pc ls st0) rest (QV v D A w' av) A) (hw : WH D cI cR A w s H locs) (h1 : v.toList ++ rest = st1)
    (kk : ∀ (H1 : Heap) (locs1 : List Loc), WH D cI cR A w' s H1 locs1 → W p l e R s m args below meth c H1 locs1 (cells + mc) (slots + ms) Q (F0 m (pc + 3) ls st1)) : W p l e R s m args below meth c H locs cells slots Q (F0 m pc ls st0) := by
  subst h1
  intro T hT X
  obtain ⟨v', st₀, t, T', L, h0, X', hL, e1, e2, ⟨hv, hP', hD', hz, hk⟩, st⟩ := hr T hT X
  cases hv
  rw [h0] at hz hk
  have hS := hw.2.2.2.1
  obtain ⟨t2, a1, b1⟩ := kk T'.heap (locs ++ L) ⟨by rw [e1]; exact hP', hw.2.1, hD', ⟨Nat.le_trans hS.1 (by rw [e1]; exact hz), fun q h1 h2 => by rw [e1, hk q (Nat.lt_of_lt_of_le h1 hS.1) h2]; exact hS.2.1 q h1 h2, fun q hq => by
      rcases List.mem_append.mp hq with h | h
      · exact hS.2.2 q h
      · exact hL q h⟩, hw.2.2.2.2⟩ T' rfl X'
  exact ⟨t2, st t2 a1, b1⟩
end QX
def ndb (b : Int32) : Bool := decide (b ≠ 0)
theorem ndb_ne {b : Int32} (h : ndb b = true) : ¬ b = 0 := of_decide_eq_true h
def ndg (K : RK) (g : Int32) : Bool := !(decide (g < 0)) && decide (g < K 12 0)
theorem ndg_has {K : RK} {g : Int32} (h : ndg K g = true) : f_X1_has K g = some 1 := by
  simp only [ndg, Bool.and_eq_true, Bool.not_eq_true', decide_eq_false_iff_not, decide_eq_true_eq] at h
  unfold f_X1_has
  rw [if_neg h.1, if_neg (Int32.not_le.mpr h.2)]
set_option maxHeartbeats 4000000 in
set_option maxRecDepth 100000 in
theorem c_X5_needIndex {l : Launch} {D : va_G} {cI cR : ClassId} {A : Nat → Prop} {w : va_W} {b : Int32} (hg : ndb b = true) : MC l yX5_needIndex wsX5_needIndex 0 0 D cI cR A [.int b] w none w := by
  refine Met.ofW (cc := cX5_needIndex) (maxL := 1) (ret := none) (by decide) rfl ?_
  intro p e s m args below meth c s₁ B hml hv
  obtain ⟨rfl, hw⟩ := q_start hv
  have hx := B.exec
  have hb := B.bytes
  have hr := B.returns
  have hlocks := B.notSynchronized
  have hl := lv_entry ([.int b]) (n := 1) (Nat.le_of_ble_eq_true rfl)
  rw [lg_entry_eq]
  generalize (lg_sl ([.int b]) ++ List.replicate (1 - (lg_sl ([.int b])).length) Slot.unset).toArray = ls at hl ⊢
  have hl : lv_has ls 1 [(0, .int b)] := hl
  refine lv_iload_n hx hb dX5_needIndex_0 rfl (lv_at hl 0 rfl) ?_
  refine lv_if_ne (tgt := 14) hx hb dX5_needIndex_1 (by decide) (fun hc => ?_) (fun hc => absurd hc (ndb_ne hg))
  exact q_vret hx hb hr hlocks hw dX5_needIndex_14
set_option maxHeartbeats 4000000 in
set_option maxRecDepth 100000 in
theorem c_X5_needArgument {l : Launch} {D : va_G} {cI cR : ClassId} {A : Nat → Prop} {w : va_W} {b : Int32} (hg : ndb b = true) : MC l yX5_needArgument wsX5_needArgument 0 0 D cI cR A [.int b] w none w := by
  refine Met.ofW (cc := cX5_needArgument) (maxL := 1) (ret := none) (by decide) rfl ?_
  intro p e s m args below meth c s₁ B hml hv
  obtain ⟨rfl, hw⟩ := q_start hv
  have hx := B.exec
  have hb := B.bytes
  have hr := B.returns
  have hlocks := B.notSynchronized
  have hl := lv_entry ([.int b]) (n := 1) (Nat.le_of_ble_eq_true rfl)
  rw [lg_entry_eq]
  generalize (lg_sl ([.int b]) ++ List.replicate (1 - (lg_sl ([.int b])).length) Slot.unset).toArray = ls at hl ⊢
  have hl : lv_has ls 1 [(0, .int b)] := hl
  refine lv_iload_n hx hb dX5_needArgument_0 rfl (lv_at hl 0 rfl) ?_
  refine lv_if_ne (tgt := 14) hx hb dX5_needArgument_1 (by decide) (fun hc => ?_) (fun hc => absurd hc (ndb_ne hg))
  exact q_vret hx hb hr hlocks hw dX5_needArgument_14
set_option maxHeartbeats 4000000 in
set_option maxRecDepth 100000 in
theorem c_X5_needState {l : Launch} {D : va_G} {cI cR : ClassId} {A : Nat → Prop} {w : va_W} {b : Int32} (hg : ndb b = true) : MC l yX5_needState wsX5_needState 0 0 D cI cR A [.int b] w none w := by
  refine Met.ofW (cc := cX5_needState) (maxL := 1) (ret := none) (by decide) rfl ?_
  intro p e s m args below meth c s₁ B hml hv
  obtain ⟨rfl, hw⟩ := q_start hv
  have hx := B.exec
  have hb := B.bytes
  have hr := B.returns
  have hlocks := B.notSynchronized
  have hl := lv_entry ([.int b]) (n := 1) (Nat.le_of_ble_eq_true rfl)
  rw [lg_entry_eq]
  generalize (lg_sl ([.int b]) ++ List.replicate (1 - (lg_sl ([.int b])).length) Slot.unset).toArray = ls at hl ⊢
  have hl : lv_has ls 1 [(0, .int b)] := hl
  refine lv_iload_n hx hb dX5_needState_0 rfl (lv_at hl 0 rfl) ?_
  refine lv_if_ne (tgt := 14) hx hb dX5_needState_1 (by decide) (fun hc => ?_) (fun hc => absurd hc (ndb_ne hg))
  exact q_vret hx hb hr hlocks hw dX5_needState_14
set_option maxHeartbeats 4000000 in
set_option maxRecDepth 100000 in
theorem c_X5_needGuest {l : Launch} {D : va_G} {cI cR : ClassId} {ad : Nat → Nat} {A : Nat → Prop} {O : XO} {K : RK} {b : Int32} (hg : ndg K b = true) : MC l yX5_needGuest wsX5_needGuest 1 21 D cI cR A [.ref (ad 0), .int b] (xws cI cR ad O K) none (xws cI cR ad O K) := by
  refine Met.ofW (cc := cX5_needGuest) (maxL := 2) (ret := none) (by decide) rfl ?_
  intro p e s m args below meth c s₁ B hml hv
  obtain ⟨rfl, hw⟩ := q_start hv
  have hx := B.exec
  have hb := B.bytes
  have hr := B.returns
  have hts := atoms_spec (ws := wsX5_needGuest) B.pre
  have hown : s.vm.findClass RX5 = some m.cls := findClass_of_methodNamed B.named
  have hlocks := B.notSynchronized
  have hiX5 : ∀ w ∈ wsX50, w ∈ wsX5_needGuest := by decide +kernel
  have hiX0 : ∀ w ∈ wsX00, w ∈ wsX5_needGuest := by decide +kernel
  have hl := lv_entry ([.ref (ad 0), .int b]) (n := 2) (Nat.le_of_ble_eq_true rfl)
  rw [lg_entry_eq]
  generalize (lg_sl ([.ref (ad 0), .int b]) ++ List.replicate (2 - (lg_sl ([.ref (ad 0), .int b])).length) Slot.unset).toArray = ls at hl ⊢
  have hl : lv_has ls 2 [(0, .ref (ad 0)), (1, .int b)] := hl
  refine lv_aload_n hx hb dX5_needGuest_0 rfl (lv_at hl 0 rfl) ?_
  refine q_get hx hb hts hiX5 hown hw 0 xa_0 rfl 0 (by decide) (hts (.fieldLink RX5 10 "LaceRanks" "now" "LLaceRanks$Carnival;") (by decide +kernel)) rfl dX5_needGuest_1 ?_
  refine q_getN hx hb hts hiX0 hown hw 1 xa_1 rfl 0 (by decide) (nw_X5_45 hw.2.2.2.2) rfl dX5_needGuest_4 ?_
  refine lv_iload_n hx hb dX5_needGuest_7 rfl (lv_at hl 1 rfl) ?_
  refine q_callVN (rest := []) (st1 := [.int 1]) [.int b] ⟨hx, hb, hml, hown, hts⟩ (c_X1_has (ndg_has hg)) ⟨va_cnB 1 hts gX5_needGuest_X1_has_n236 rfl rfl rfl (nw_X5_236 hw.2.2.2.2) (hts (.initialized RX1) (by decide +kernel)) (by decide +kernel) ⟨Nat.le_of_ble_eq_true rfl, Nat.le_of_ble_eq_true rfl⟩, (hts (.instanceMethod yX1_has) (by decide +kernel)), (hts (.selects RX1 yX1_has yX1_has) (by decide +kernel))⟩ hw xa_2 rfl rfl hl.1 rfl (Nat.le_of_ble_eq_true rfl) dX5_needGuest_8 ⟨Nat.zero_le _, Nat.zero_le _⟩ rfl (fun H locs hw => ?_)
  refine lv_if_ne (tgt := 24) hx hb dX5_needGuest_11 (by decide) (fun hc => ?_) (fun hc => absurd hc (by decide))
  exact q_vret hx hb hr hlocks hw dX5_needGuest_24
