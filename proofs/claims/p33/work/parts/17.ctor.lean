/-! what is made: a world grows at its end -/
def PI (D : va_G) (cI cR : ClassId) (A : Nat → Prop) (w : va_W) (U : State) : Prop := PX D cI cR A w U ∧ va_AO "LaceRanks$Carnival" U
def QIN (P' : va_W → Prop) (D : va_G) (A : Nat → Prop) : Array Value → State → Outcome → State → Prop := fun _ st oc t => oc = .returned none ∧ ∃ w' : va_W, P' w' ∧ va_P D vwCl w' t.heap ∧ va_D A w' ∧ va_F A st t
abbrev MIN (l : Launch) (y : MethodName) (ws : List Cond) (fr lo mc ms : Nat) (D : va_G) (cI cR : ClassId) (A : Nat → Prop) (av : List Value) (w : va_W) (P' : va_W → Prop) : Prop := Met l y ws ({ frames := fr, cells := mc, slots := ms, locals := lo }) (va_Pc av (PI D cI cR A w)) (QIN P' D A) mc ms A
theorem i_blind {D : va_G} {cI cR : ClassId} {A : Nat → Prop} {w : va_W} {av : List Value} : FrameBlind (va_Pc av (PI D cI cR A w)) := fun a U g mk h => ⟨h.1, (x_blind a U g mk ⟨h.1, h.2.1⟩).2, va_AO.moved (u := U) (U := U.calling g mk a) (Vm.Alike.refl U.vm) h.2.2⟩
theorem wg {w0 l : va_W} {j : Nat} : (w0 ++ l)[w0.length + j]? = l[j]? := by rw [List.getElem?_append_right (Nat.le_add_right _ _), Nat.add_sub_cancel_left]
theorem wset {w0 l : va_W} {j : Nat} {x : Nat × va_E} : (w0 ++ l).set (w0.length + j) x = w0 ++ l.set j x := by rw [List.set_append_right (h := Nat.le_add_right _ _), Nat.add_sub_cancel_left]
section QI
variable {p : Program} {l : Launch} {e : Env} {R : Room} {s : State} {m : MethodId} {args : Array Value} {below : List Frame} {meth : Method} {c : Code} {H : Heap} {locs : List Loc} {cells slots : Nat} {Q : State → Prop}
variable {cc : ByteArray} {pc mc ms : Nat} {ls : Array Slot} {rest st0 st1 : List Value} {D : va_G} {cI cR : ClassId} {A : Nat → Prop} {a : Nat} {w w0 lw lw' : va_W}
theorem i_preS {av : List Value} (hw : WH D cI cR A w s H locs) (hO : OUT A s s.heap) (hA : ∀ q : Nat, s.heap.size ≤ q → A q) (hC : va_AO "LaceRanks$Carnival" s) : PreS s H (va_Pc av (PI D cI cR A w)) av := ⟨i_blind, fun U hU hW => ⟨rfl, ((x_preS (av := av) hw hO hA).2 U hU hW).2, va_AO.moved hW.alike hC⟩⟩
theorem i_run {P' : va_W → Prop} {av : Array Value} (hr : va_Run p l e R s m args below meth c H locs cells slots mc ms (F0 m pc ls st0) rest (QIN P' D A av) A) (hw : WH D cI cR A w s H locs)
    (kk : ∀ w' : va_W, P' w' → ∀ (H1 : Heap) (locs1 : List Loc), WH D cI cR A w' s H1 locs1 → W p l e R s m args below meth c H1 locs1 (cells + mc) (slots + ms) Q (F0 m (pc + 3) ls rest)) : W p l e R s m args below meth c H locs cells slots Q (F0 m pc ls st0) := by
  obtain ⟨hP, hK, hD, hS, hN⟩ := hw
  intro T hT X
  obtain ⟨v', st₀, t, T', L, h0, X', hL, e1, e2, ⟨hv, w', hp', hP', hD', hz, hk⟩, st⟩ := hr T hT X
  cases hv
  rw [h0] at hz hk
  obtain ⟨t2, a1, b1⟩ := kk w' hp' T'.heap (locs ++ L) ⟨by rw [e1]; exact hP', hK, hD', ⟨Nat.le_trans hS.1 (by rw [e1]; exact hz), fun q h1 h2 => by rw [e1, hk q (Nat.lt_of_lt_of_le h1 hS.1) h2]; exact hS.2.1 q h1 h2, fun q hq => by
      rcases List.mem_append.mp hq with h | h
      · exact hS.2.2 q h
      · exact hL q h⟩, hN⟩ T' rfl X'
  exact ⟨t2, st t2 a1, b1⟩
theorem i_newa (hexec : p.tables.exec = Jvm.exec) (hb : c.code = cc) (harr : (Cond.arrayClass .int).before args s = true) (hw : WH D cI cR A (w0 ++ lw) s H locs) (hA : ∀ q : Nat, s.heap.size ≤ q → A q)
    {n : Int32} {N' : Nat} (hn : ¬ n < 0) (hN : n.toNatClampNeg = N') (hbytes : N' * componentBytes .int ≤ 536870912) (hcells : cells + 1 ≤ R.cells) (hslots : slots + N' ≤ R.slots) (hdg : decode cc pc = .ok (.newarray .int, 2))
    (kk : ∀ (q : Nat) (H1 : Heap), WH D cI cR A (w0 ++ (lw ++ [(q, .inl (cI, N', .inl (fun _ => 0)))])) s H1 locs → W p l e R s m args below meth c H1 locs (cells + 1) (slots + N') Q (F0 m (pc + 2) ls (.ref q :: rest))) : W p l e R s m args below meth c H locs cells slots Q (F0 m pc ls (.int n :: rest)) := by
  obtain ⟨hP, hK, hD, hS, hN'⟩ := hw
  refine va_newa (atype := .int) (ty := .int) (a0 := (N', .inl (fun _ => 0))) hexec hb harr rfl hK hP hD hS hA (fun _ => rfl) hn hN hbytes hcells hslots hdg (fun q cA H1 h1 h2 h3 h4 => ?_)
  have e1 : s.vm.findClass ("[" ++ (FieldType.int).toString) = some cI := (hK.2 0 (cI, .int) rfl).2
  have e2 : s.vm.findClass ("[" ++ (FieldType.int).toString) = some cA := (h1.2 2 (cA, .int) rfl).2
  have e3 : cA = cI := Option.some.inj (e2.symm.trans e1)
  subst e3
  rw [List.append_assoc] at h2 h3
  exact kk q H1 ⟨h2, hK, h3, h4, hN'⟩
theorem i_new {C : String} {T : u_T} {N ci index : Nat} {Ts : List Cond} {own : String} (hexec : p.tables.exec = Jvm.exec) (hb : c.code = cc) (hts : ∀ w ∈ Ts, w.before args s = true) (hin : ∀ w ∈ u_ws C T N, w ∈ Ts) (ty : Nat → FieldType) (hty : ∀ k, k < N → parseFieldDescriptor (T k).2.2.1 = some (ty k)) (hown : s.vm.findClass own = some m.cls) (hcl : (Cond.classLink own index C).before args s = true) (hinst : (Cond.instantiable C N).before args s = true) (hini : (Cond.initialized C).before args s = true)
    (hw : WH D cI cR A (w0 ++ lw) s H locs) (hA : ∀ q : Nat, s.heap.size ≤ q → A q) (hc : vwCl[ci]? = some (C, T, N)) {fs : List Value} (hfs : ∀ j, j < N → defaultValue (ty j) = vp_V fs j) (hcells : cells + 1 ≤ R.cells) (hslots : slots + N ≤ R.slots) (hdg : decode cc pc = .ok (.new index, 3))
    (kk : ∀ (q : Nat) (H1 : Heap), WH D cI cR A (w0 ++ (lw ++ [(q, .inr (ci, fs))])) s H1 locs → W p l e R s m args below meth c H1 locs (cells + 1) (slots + N) Q (F0 m (pc + 3) ls (.ref q :: rest))) : W p l e R s m args below meth c H locs cells slots Q (F0 m pc ls rest) := by
  obtain ⟨hP, hK, hD, hS, hN'⟩ := hw
  refine va_new hexec hb hts hin ty hty hown hcl hinst hini hK hP hD hS hA hc hfs hcells hslots hdg (fun q H1 h2 h3 h4 => ?_)
  rw [List.append_assoc] at h2 h3
  exact kk q H1 ⟨h2, hK, h3, h4, hN'⟩
theorem i_putF (hexec : p.tables.exec = Jvm.exec) (hb : c.code = cc) {own C : String} {T : u_T} {N ci index : Nat} {Ts : List Cond} (hts : ∀ w ∈ Ts, w.before args s = true) (hin : ∀ w ∈ u_ws C T N, w ∈ Ts) (ty0 : Nat → FieldType) (hty : ∀ k, k < N → parseFieldDescriptor (T k).2.2.1 = some (ty0 k)) (hnm : ∀ a, a < N → ∀ b, b < N → a ≠ b → (T a).2.1 ≠ (T b).2.1) (hown : s.vm.findClass own = some m.cls) (hw : WH D cI cR A (w0 ++ lw) s H locs) (j : Nat) {fs : List Value} (he : lw[j]? = some (a, .inr (ci, fs))) (hc : vwCl[ci]? = some (C, T, N)) (k : Nat) (hk : k < N) (hlink : (Cond.fieldLink own index (T k).1 (T k).2.1 (T k).2.2.1).before args s = true) (hfin : (T k).2.2.2 = true) (hin2 : meth.name = "<init>") (hdecl : (T k).1 = own) {ty : FieldType} {v : Value} (hd : parseFieldDescriptor (T k).2.2.1 = some ty) (hn : narrow ty v = v) (hfit : fits ty v = true) (hl : k < fs.length)
    (hdg : decode cc pc = .ok (.putfield index, 3)) (hset : lw.set j (a, .inr (ci, fs.set k v)) = lw') (kk : ∀ (H1 : Heap) (locs1 : List Loc), WH D cI cR A (w0 ++ lw') s H1 locs1 → W p l e R s m args below meth c H1 locs1 cells slots Q (F0 m (pc + 3) ls rest)) : W p l e R s m args below meth c H locs cells slots Q (F0 m pc ls (v :: .ref a :: rest)) :=
  va_putF hexec hb hts hin ty0 hty hnm hown hw.2.1 hw.1 hw.2.2.1 hw.2.2.2.1 (w0.length + j) (wg.trans he) hc k hk hlink (fun _ h => h) hfin hin2 hdecl hd hn hfit hl hdg (fun H1 locs1 h1 h2 h3 => kk H1 locs1 ⟨by rw [wset, hset] at h1; exact h1, hw.2.1, by rw [wset, hset] at h2; exact h2, h3, hw.2.2.2.2⟩)
theorem i_put (hexec : p.tables.exec = Jvm.exec) (hb : c.code = cc) {own C : String} {T : u_T} {N ci index : Nat} {Ts : List Cond} (hts : ∀ w ∈ Ts, w.before args s = true) (hin : ∀ w ∈ u_ws C T N, w ∈ Ts) (ty0 : Nat → FieldType) (hty : ∀ k, k < N → parseFieldDescriptor (T k).2.2.1 = some (ty0 k)) (hnm : ∀ a, a < N → ∀ b, b < N → a ≠ b → (T a).2.1 ≠ (T b).2.1) (hown : s.vm.findClass own = some m.cls) (hw : WH D cI cR A (w0 ++ lw) s H locs) (j : Nat) {fs : List Value} (he : lw[j]? = some (a, .inr (ci, fs))) (hc : vwCl[ci]? = some (C, T, N)) (k : Nat) (hk : k < N) (hlink : (Cond.fieldLink own index (T k).1 (T k).2.1 (T k).2.2.1).before args s = true) (hfin : (T k).2.2.2 = false) {ty : FieldType} {v : Value} (hd : parseFieldDescriptor (T k).2.2.1 = some ty) (hn : narrow ty v = v) (hfit : fits ty v = true) (hl : k < fs.length)
    (hdg : decode cc pc = .ok (.putfield index, 3)) (hset : lw.set j (a, .inr (ci, fs.set k v)) = lw') (kk : ∀ (H1 : Heap) (locs1 : List Loc), WH D cI cR A (w0 ++ lw') s H1 locs1 → W p l e R s m args below meth c H1 locs1 cells slots Q (F0 m (pc + 3) ls rest)) : W p l e R s m args below meth c H locs cells slots Q (F0 m pc ls (v :: .ref a :: rest)) :=
  va_put hexec hb hts hin ty0 hty hnm hown hw.2.1 hw.1 hw.2.2.1 hw.2.2.2.1 (w0.length + j) (wg.trans he) hc k hk hlink (fun _ h => h) hfin hd hn hfit hl hdg (fun H1 locs1 h1 h2 h3 => kk H1 locs1 ⟨by rw [wset, hset] at h1; exact h1, hw.2.1, by rw [wset, hset] at h2; exact h2, h3, hw.2.2.2.2⟩)
theorem i_ret {P' : va_W → Prop} (hc : cells ≤ mc) (hs : slots ≤ ms) (hexec : p.tables.exec = Jvm.exec) (hb : c.code = cc) (hr : meth.sig.returnType = none) (hlocks : meth.locks = false) (hw : WH D cI cR A w s H locs) (hp : P' w) (hdg : decode cc pc = .ok (.return_, 1)) : W p l e R s m args below meth c H locs cells slots (MQ below (QIN P' D A) args s mc ms A) (F0 m pc ls []) :=
  W.widen hc hs (W.vret hexec hb hr (fun t ht _ => ⟨rfl, w, hp, by rw [ht]; exact hw.1, hw.2.2.1, hw.2.2.2.1.F ht⟩) hw.2.2.2.1.2.2 hdg hlocks)
theorem i_start {av : List Value} (h : va_Pc av (PI D cI cR A w) args s) : args = av.toArray ∧ WH D cI cR A w s s.heap [] ∧ OUT A s s.heap ∧ (∀ q : Nat, s.heap.size ≤ q → A q) ∧ va_AO "LaceRanks$Carnival" s := by
  obtain ⟨h1, h2, h3, h4⟩ := x_start (D := D) (cI := cI) (cR := cR) (A := A) (w := w) ⟨h.1, h.2.1⟩
  exact ⟨h1, h2, h3, h4, h.2.2⟩
end QI
abbrev z32 : Nat → Int32 := fun _ => 0
/-- copying out of a row that lies outside -/
theorem c_X5_copyRowO {l : Launch} {D : va_G} {cI cR : ClassId} {A : Nat → Prop} {w w' : va_W} {a0 a1 q1 : Nat} {f g : Nat → Int32} (he1 : w[q1]? = some (a1, .inl (cI, 6, .inl g))) (hset : w.set q1 (a1, .inl (cI, 6, .inl (va_cpy f g 0 0 6))) = w') : Met l yX5_copyRow wsX5_copyRow ({ frames := 1, cells := 0, slots := 0, locals := 20 }) (va_Pc [.ref a0, .ref a1] (fun U => WB D cI cR A w U ∧ SX a0 f A U U.heap)) (QV none D A w') 0 0 A := by
  refine Met.ofW (cc := cX5_copyRow) (maxL := 2) (ret := none) (by decide) rfl ?_
  intro p e s m args below meth c s₁ B hml hv
  have hX : SX a0 f A s s.heap := hv.2.2
  obtain ⟨rfl, hw⟩ := q_start (w := w) (D := D) (cI := cI) (cR := cR) (A := A) ⟨hv.1, hv.2.1⟩
  obtain ⟨hX1, hX2, hX3⟩ := hX
  have hx := B.exec
  have hb := B.bytes
  have hr := B.returns
  have hts := atoms_spec (ws := wsX5_copyRow) B.pre
  have hown : s.vm.findClass RX5 = some m.cls := findClass_of_methodNamed B.named
  have hlocks := B.notSynchronized
  have hl := lv_entry ([.ref a0, .ref a1]) (n := 2) (Nat.le_of_ble_eq_true rfl)
  rw [lg_entry_eq]
  generalize (lg_sl ([.ref a0, .ref a1]) ++ List.replicate (2 - (lg_sl ([.ref a0, .ref a1])).length) Slot.unset).toArray = ls at hl ⊢
  have hl : lv_has ls 2 [(0, .ref a0), (1, .ref a1)] := hl
  refine lv_aload_n hx hb dX5_copyRow_0 rfl (lv_at hl 0 rfl) ?_
  refine lv_iconst (v := 0) hx hb dX5_copyRow_1 (by decide) ?_
  refine lv_aload_n hx hb dX5_copyRow_2 rfl (lv_at hl 1 rfl) ?_
  refine lv_iconst (v := 0) hx hb dX5_copyRow_3 (by decide) ?_
  refine lv_aload_n hx hb dX5_copyRow_4 rfl (lv_at hl 0 rfl) ?_
  refine va_slen hx hb hX1 hX2 hX3 hw.2.2.2.1 dX5_copyRow_5 ?_
  refine lv_aload_n hx hb dX5_copyRow_6 rfl (lv_at hl 1 rfl) ?_
  refine q_alen hx hb hw q1 he1 rfl dX5_copyRow_7 ?_
  refine va_mmin hx hb (hml.trans hl.1.symm) hown (hts (.methodLink RX5 258 Lib.Math.min.name) (by decide +kernel)) (hts (.static Lib.Math.min.name) (by decide +kernel)) (hts (.initialized "java/lang/Math") (by decide +kernel)) (hts (.code Lib.Math.min.name Lib.Math.min.code 2 (some .int)) (by decide +kernel)) (Nat.le_of_ble_eq_true rfl) (Nat.le_of_ble_eq_true rfl) (Nat.zero_le _) (Nat.zero_le _) dX5_copyRow_8 ?_
  refine q_is min_nn.symm ?_
  have hz : (0 : Int32).toNatClampNeg = 0 := by decide
  have hcl : (Int32.ofNat 6).toNatClampNeg = 6 := by decide
  refine va_copyx hx hb (hml.trans hl.1.symm) hown (hts (.methodLink RX5 263 arraycopyName) (by decide +kernel)) (hts (.native arraycopyName) (by decide +kernel)) (hts (.static arraycopyName) (by decide +kernel)) (hts (.initialized "java/lang/System") (by decide +kernel)) hw.2.1 hw.1 hw.2.2.1 hw.2.2.2.1 hX1 hX2 hX3 q1 0 he1 rfl (by decide) (by decide) (by decide) (by decide) (by decide) (Nat.le_of_ble_eq_true rfl) (Nat.le_of_ble_eq_true rfl) dX5_copyRow_11 (fun H1 locs1 h1 h2 h3 => ?_)
  rw [hz, hcl, hset] at h1 h2
  exact q_vret hx hb hr hlocks ⟨h1, hw.2.1, h2, h3, hw.2.2.2.2⟩ dX5_copyRow_14
set_option maxHeartbeats 4000000 in
set_option maxRecDepth 100000 in
theorem c_X1_init {l : Launch} {D : va_G} {cI cR : ClassId} {A : Nat → Prop} {w0 : va_W} {a : Nat} : MIN l yX1_init wsX1_init 1 14 8 80 D cI cR A [.ref a] ((w0 ++ [(a, .inr (1, [.null, .null, .null, .null, .null, .null, .null, .null, .int 0]))])) (fun w' => ∃ b : Nat → Nat, w' = w0 ++ [(a, .inr (1, [.ref (b 0), .ref (b 1), .ref (b 2), .ref (b 3), .ref (b 4), .ref (b 5), .ref (b 6), .ref (b 7), .int 0])), (b 0, .inl (cI, 10, .inl z32)), (b 1, .inl (cI, 10, .inl z32)), (b 2, .inl (cI, 10, .inl z32)), (b 3, .inl (cI, 10, .inl z32)), (b 4, .inl (cI, 10, .inl z32)), (b 5, .inl (cI, 10, .inl z32)), (b 6, .inl (cI, 10, .inl z32)), (b 7, .inl (cI, 10, .inl z32))]) := by
  refine Met.ofW (cc := cX1_init) (maxL := 1) (ret := none) (by decide) rfl ?_
  intro p e s m args below meth c s₁ B hml hv
  obtain ⟨rfl, hw, hO, hA, hC⟩ := i_start hv
  have hx := B.exec
  have hb := B.bytes
  have hr := B.returns
  have hts := atoms_spec (ws := wsX1_init) B.pre
  have hown : s.vm.findClass RX1 = some m.cls := findClass_of_methodNamed B.named
  have hlocks := B.notSynchronized
  have hin : meth.name = "<init>" := (name_of_methodNamed B.named B.method).1
  have hiX1 : ∀ w ∈ wsX10, w ∈ wsX1_init := by decide +kernel
  have hl := lv_entry ([.ref a]) (n := 1) (Nat.le_of_ble_eq_true rfl)
  rw [lg_entry_eq]
  generalize (lg_sl ([.ref a]) ++ List.replicate (1 - (lg_sl ([.ref a])).length) Slot.unset).toArray = ls at hl ⊢
  have hl : lv_has ls 1 [(0, .ref a)] := hl
  refine lv_aload_n hx hb dX1_init_0 rfl (lv_at hl 0 rfl) ?_
  refine W.objInit hx hb hown (hts (.methodLink RX1 3 objectInit) (by decide +kernel)) (hts (.instanceMethod objectInit) (by decide +kernel)) (hts (.code objectInit ⟨#[0xb1]⟩ 1 none) (by decide +kernel)) rfl (by rw [hml]; exact hl.1) rfl dX1_init_1 (Nat.le_of_ble_eq_true rfl) (Nat.le_of_ble_eq_true rfl) ?_
  refine W.eq (g2 := F0 m 4 ls []) rfl ?_
  refine lv_aload_n hx hb dX1_init_4 rfl (lv_at hl 0 rfl) ?_
  refine lv_bipush (v := 10) hx hb dX1_init_5 (by decide) ?_
  refine i_newa hx hb (hts (.arrayClass .int) (by decide +kernel)) hw hA (by decide) (N' := 10) (by decide) (by decide) (Nat.le_of_ble_eq_true rfl) (Nat.le_of_ble_eq_true rfl) dX1_init_7 (fun q0 H hw => ?_)
  have hw : WH D cI cR A (w0 ++ [(a, .inr (1, [.null, .null, .null, .null, .null, .null, .null, .null, .int 0])), (q0, .inl (cI, 10, .inl z32))]) s H _ := hw
  refine i_putF (ty := .array .int) hx hb hts hiX1 tyX1 tyX1_ok nmX1 hown hw 0 rfl rfl 0 (by decide) (hts (.fieldLink RX1 9 "LaceRanks$Guests" "rank" "[I") (by decide +kernel)) rfl hin rfl (by decide +kernel) rfl rfl (Nat.le_of_ble_eq_true rfl) dX1_init_9 rfl (fun H locs hw => ?_)
  have hw : WH D cI cR A (w0 ++ [(a, .inr (1, [.ref q0, .null, .null, .null, .null, .null, .null, .null, .int 0])), (q0, .inl (cI, 10, .inl z32))]) s H locs := hw
  refine lv_aload_n hx hb dX1_init_12 rfl (lv_at hl 0 rfl) ?_
  refine lv_bipush (v := 10) hx hb dX1_init_13 (by decide) ?_
  refine i_newa hx hb (hts (.arrayClass .int) (by decide +kernel)) hw hA (by decide) (N' := 10) (by decide) (by decide) (Nat.le_of_ble_eq_true rfl) (Nat.le_of_ble_eq_true rfl) dX1_init_15 (fun q1 H hw => ?_)
  have hw : WH D cI cR A (w0 ++ [(a, .inr (1, [.ref q0, .null, .null, .null, .null, .null, .null, .null, .int 0])), (q0, .inl (cI, 10, .inl z32)), (q1, .inl (cI, 10, .inl z32))]) s H _ := hw
  refine i_putF (ty := .array .int) hx hb hts hiX1 tyX1 tyX1_ok nmX1 hown hw 0 rfl rfl 1 (by decide) (hts (.fieldLink RX1 15 "LaceRanks$Guests" "purse" "[I") (by decide +kernel)) rfl hin rfl (by decide +kernel) rfl rfl (Nat.le_of_ble_eq_true rfl) dX1_init_17 rfl (fun H locs hw => ?_)
  have hw : WH D cI cR A (w0 ++ [(a, .inr (1, [.ref q0, .ref q1, .null, .null, .null, .null, .null, .null, .int 0])), (q0, .inl (cI, 10, .inl z32)), (q1, .inl (cI, 10, .inl z32))]) s H locs := hw
  refine lv_aload_n hx hb dX1_init_20 rfl (lv_at hl 0 rfl) ?_
  refine lv_bipush (v := 10) hx hb dX1_init_21 (by decide) ?_
  refine i_newa hx hb (hts (.arrayClass .int) (by decide +kernel)) hw hA (by decide) (N' := 10) (by decide) (by decide) (Nat.le_of_ble_eq_true rfl) (Nat.le_of_ble_eq_true rfl) dX1_init_23 (fun q2 H hw => ?_)
  have hw : WH D cI cR A (w0 ++ [(a, .inr (1, [.ref q0, .ref q1, .null, .null, .null, .null, .null, .null, .int 0])), (q0, .inl (cI, 10, .inl z32)), (q1, .inl (cI, 10, .inl z32)), (q2, .inl (cI, 10, .inl z32))]) s H _ := hw
  refine i_putF (ty := .array .int) hx hb hts hiX1 tyX1 tyX1_ok nmX1 hown hw 0 rfl rfl 2 (by decide) (hts (.fieldLink RX1 18 "LaceRanks$Guests" "debts" "[I") (by decide +kernel)) rfl hin rfl (by decide +kernel) rfl rfl (Nat.le_of_ble_eq_true rfl) dX1_init_25 rfl (fun H locs hw => ?_)
  have hw : WH D cI cR A (w0 ++ [(a, .inr (1, [.ref q0, .ref q1, .ref q2, .null, .null, .null, .null, .null, .int 0])), (q0, .inl (cI, 10, .inl z32)), (q1, .inl (cI, 10, .inl z32)), (q2, .inl (cI, 10, .inl z32))]) s H locs := hw
  refine lv_aload_n hx hb dX1_init_28 rfl (lv_at hl 0 rfl) ?_
  refine lv_bipush (v := 10) hx hb dX1_init_29 (by decide) ?_
  refine i_newa hx hb (hts (.arrayClass .int) (by decide +kernel)) hw hA (by decide) (N' := 10) (by decide) (by decide) (Nat.le_of_ble_eq_true rfl) (Nat.le_of_ble_eq_true rfl) dX1_init_31 (fun q3 H hw => ?_)
  have hw : WH D cI cR A (w0 ++ [(a, .inr (1, [.ref q0, .ref q1, .ref q2, .null, .null, .null, .null, .null, .int 0])), (q0, .inl (cI, 10, .inl z32)), (q1, .inl (cI, 10, .inl z32)), (q2, .inl (cI, 10, .inl z32)), (q3, .inl (cI, 10, .inl z32))]) s H _ := hw
  refine i_putF (ty := .array .int) hx hb hts hiX1 tyX1 tyX1_ok nmX1 hown hw 0 rfl rfl 3 (by decide) (hts (.fieldLink RX1 21 "LaceRanks$Guests" "lace" "[I") (by decide +kernel)) rfl hin rfl (by decide +kernel) rfl rfl (Nat.le_of_ble_eq_true rfl) dX1_init_33 rfl (fun H locs hw => ?_)
  have hw : WH D cI cR A (w0 ++ [(a, .inr (1, [.ref q0, .ref q1, .ref q2, .ref q3, .null, .null, .null, .null, .int 0])), (q0, .inl (cI, 10, .inl z32)), (q1, .inl (cI, 10, .inl z32)), (q2, .inl (cI, 10, .inl z32)), (q3, .inl (cI, 10, .inl z32))]) s H locs := hw
  refine lv_aload_n hx hb dX1_init_36 rfl (lv_at hl 0 rfl) ?_
  refine lv_bipush (v := 10) hx hb dX1_init_37 (by decide) ?_
  refine i_newa hx hb (hts (.arrayClass .int) (by decide +kernel)) hw hA (by decide) (N' := 10) (by decide) (by decide) (Nat.le_of_ble_eq_true rfl) (Nat.le_of_ble_eq_true rfl) dX1_init_39 (fun q4 H hw => ?_)
  have hw : WH D cI cR A (w0 ++ [(a, .inr (1, [.ref q0, .ref q1, .ref q2, .ref q3, .null, .null, .null, .null, .int 0])), (q0, .inl (cI, 10, .inl z32)), (q1, .inl (cI, 10, .inl z32)), (q2, .inl (cI, 10, .inl z32)), (q3, .inl (cI, 10, .inl z32)), (q4, .inl (cI, 10, .inl z32))]) s H _ := hw
  refine i_putF (ty := .array .int) hx hb hts hiX1 tyX1 tyX1_ok nmX1 hown hw 0 rfl rfl 4 (by decide) (hts (.fieldLink RX1 24 "LaceRanks$Guests" "lender" "[I") (by decide +kernel)) rfl hin rfl (by decide +kernel) rfl rfl (Nat.le_of_ble_eq_true rfl) dX1_init_41 rfl (fun H locs hw => ?_)
  have hw : WH D cI cR A (w0 ++ [(a, .inr (1, [.ref q0, .ref q1, .ref q2, .ref q3, .ref q4, .null, .null, .null, .int 0])), (q0, .inl (cI, 10, .inl z32)), (q1, .inl (cI, 10, .inl z32)), (q2, .inl (cI, 10, .inl z32)), (q3, .inl (cI, 10, .inl z32)), (q4, .inl (cI, 10, .inl z32))]) s H locs := hw
  refine lv_aload_n hx hb dX1_init_44 rfl (lv_at hl 0 rfl) ?_
  refine lv_bipush (v := 10) hx hb dX1_init_45 (by decide) ?_
  refine i_newa hx hb (hts (.arrayClass .int) (by decide +kernel)) hw hA (by decide) (N' := 10) (by decide) (by decide) (Nat.le_of_ble_eq_true rfl) (Nat.le_of_ble_eq_true rfl) dX1_init_47 (fun q5 H hw => ?_)
  have hw : WH D cI cR A (w0 ++ [(a, .inr (1, [.ref q0, .ref q1, .ref q2, .ref q3, .ref q4, .null, .null, .null, .int 0])), (q0, .inl (cI, 10, .inl z32)), (q1, .inl (cI, 10, .inl z32)), (q2, .inl (cI, 10, .inl z32)), (q3, .inl (cI, 10, .inl z32)), (q4, .inl (cI, 10, .inl z32)), (q5, .inl (cI, 10, .inl z32))]) s H _ := hw
  refine i_putF (ty := .array .int) hx hb hts hiX1 tyX1 tyX1_ok nmX1 hown hw 0 rfl rfl 5 (by decide) (hts (.fieldLink RX1 27 "LaceRanks$Guests" "borrower" "[I") (by decide +kernel)) rfl hin rfl (by decide +kernel) rfl rfl (Nat.le_of_ble_eq_true rfl) dX1_init_49 rfl (fun H locs hw => ?_)
  have hw : WH D cI cR A (w0 ++ [(a, .inr (1, [.ref q0, .ref q1, .ref q2, .ref q3, .ref q4, .ref q5, .null, .null, .int 0])), (q0, .inl (cI, 10, .inl z32)), (q1, .inl (cI, 10, .inl z32)), (q2, .inl (cI, 10, .inl z32)), (q3, .inl (cI, 10, .inl z32)), (q4, .inl (cI, 10, .inl z32)), (q5, .inl (cI, 10, .inl z32))]) s H locs := hw
  refine lv_aload_n hx hb dX1_init_52 rfl (lv_at hl 0 rfl) ?_
  refine lv_bipush (v := 10) hx hb dX1_init_53 (by decide) ?_
  refine i_newa hx hb (hts (.arrayClass .int) (by decide +kernel)) hw hA (by decide) (N' := 10) (by decide) (by decide) (Nat.le_of_ble_eq_true rfl) (Nat.le_of_ble_eq_true rfl) dX1_init_55 (fun q6 H hw => ?_)
  have hw : WH D cI cR A (w0 ++ [(a, .inr (1, [.ref q0, .ref q1, .ref q2, .ref q3, .ref q4, .ref q5, .null, .null, .int 0])), (q0, .inl (cI, 10, .inl z32)), (q1, .inl (cI, 10, .inl z32)), (q2, .inl (cI, 10, .inl z32)), (q3, .inl (cI, 10, .inl z32)), (q4, .inl (cI, 10, .inl z32)), (q5, .inl (cI, 10, .inl z32)), (q6, .inl (cI, 10, .inl z32))]) s H _ := hw
  refine i_putF (ty := .array .int) hx hb hts hiX1 tyX1 tyX1_ok nmX1 hown hw 0 rfl rfl 6 (by decide) (hts (.fieldLink RX1 30 "LaceRanks$Guests" "maskNights" "[I") (by decide +kernel)) rfl hin rfl (by decide +kernel) rfl rfl (Nat.le_of_ble_eq_true rfl) dX1_init_57 rfl (fun H locs hw => ?_)
  have hw : WH D cI cR A (w0 ++ [(a, .inr (1, [.ref q0, .ref q1, .ref q2, .ref q3, .ref q4, .ref q5, .ref q6, .null, .int 0])), (q0, .inl (cI, 10, .inl z32)), (q1, .inl (cI, 10, .inl z32)), (q2, .inl (cI, 10, .inl z32)), (q3, .inl (cI, 10, .inl z32)), (q4, .inl (cI, 10, .inl z32)), (q5, .inl (cI, 10, .inl z32)), (q6, .inl (cI, 10, .inl z32))]) s H locs := hw
  refine lv_aload_n hx hb dX1_init_60 rfl (lv_at hl 0 rfl) ?_
  refine lv_bipush (v := 10) hx hb dX1_init_61 (by decide) ?_
  refine i_newa hx hb (hts (.arrayClass .int) (by decide +kernel)) hw hA (by decide) (N' := 10) (by decide) (by decide) (Nat.le_of_ble_eq_true rfl) (Nat.le_of_ble_eq_true rfl) dX1_init_63 (fun q7 H hw => ?_)
  have hw : WH D cI cR A (w0 ++ [(a, .inr (1, [.ref q0, .ref q1, .ref q2, .ref q3, .ref q4, .ref q5, .ref q6, .null, .int 0])), (q0, .inl (cI, 10, .inl z32)), (q1, .inl (cI, 10, .inl z32)), (q2, .inl (cI, 10, .inl z32)), (q3, .inl (cI, 10, .inl z32)), (q4, .inl (cI, 10, .inl z32)), (q5, .inl (cI, 10, .inl z32)), (q6, .inl (cI, 10, .inl z32)), (q7, .inl (cI, 10, .inl z32))]) s H _ := hw
  refine i_putF (ty := .array .int) hx hb hts hiX1 tyX1 tyX1_ok nmX1 hown hw 0 rfl rfl 7 (by decide) (hts (.fieldLink RX1 33 "LaceRanks$Guests" "inside" "[I") (by decide +kernel)) rfl hin rfl (by decide +kernel) rfl rfl (Nat.le_of_ble_eq_true rfl) dX1_init_65 rfl (fun H locs hw => ?_)
  have hw : WH D cI cR A (w0 ++ [(a, .inr (1, [.ref q0, .ref q1, .ref q2, .ref q3, .ref q4, .ref q5, .ref q6, .ref q7, .int 0])), (q0, .inl (cI, 10, .inl z32)), (q1, .inl (cI, 10, .inl z32)), (q2, .inl (cI, 10, .inl z32)), (q3, .inl (cI, 10, .inl z32)), (q4, .inl (cI, 10, .inl z32)), (q5, .inl (cI, 10, .inl z32)), (q6, .inl (cI, 10, .inl z32)), (q7, .inl (cI, 10, .inl z32))]) s H locs := hw
  exact i_ret (Nat.le_of_ble_eq_true rfl) (Nat.le_of_ble_eq_true rfl) hx hb hr hlocks hw ⟨fun k => match k with | 0 => q0 | 1 => q1 | 2 => q2 | 3 => q3 | 4 => q4 | 5 => q5 | 6 => q6 | _ => q7, rfl⟩ dX1_init_68
set_option maxHeartbeats 4000000 in
set_option maxRecDepth 100000 in
theorem c_X3_init {l : Launch} {D : va_G} {cI cR : ClassId} {A : Nat → Prop} {w0 : va_W} {a : Nat} : MIN l yX3_init wsX3_init 1 14 2 33 D cI cR A [.ref a] ((w0 ++ [(a, .inr (3, [.null, .null]))])) (fun w' => ∃ b : Nat → Nat, w' = w0 ++ [(a, .inr (3, [.ref (b 0), .ref (b 1)])), (b 0, .inl (cI, 30, .inl z32)), (b 1, .inl (cI, 3, .inl z32))]) := by
  refine Met.ofW (cc := cX3_init) (maxL := 1) (ret := none) (by decide) rfl ?_
  intro p e s m args below meth c s₁ B hml hv
  obtain ⟨rfl, hw, hO, hA, hC⟩ := i_start hv
  have hx := B.exec
  have hb := B.bytes
  have hr := B.returns
  have hts := atoms_spec (ws := wsX3_init) B.pre
  have hown : s.vm.findClass RX3 = some m.cls := findClass_of_methodNamed B.named
  have hlocks := B.notSynchronized
  have hin : meth.name = "<init>" := (name_of_methodNamed B.named B.method).1
  have hiX3 : ∀ w ∈ wsX30, w ∈ wsX3_init := by decide +kernel
  have hl := lv_entry ([.ref a]) (n := 1) (Nat.le_of_ble_eq_true rfl)
  rw [lg_entry_eq]
  generalize (lg_sl ([.ref a]) ++ List.replicate (1 - (lg_sl ([.ref a])).length) Slot.unset).toArray = ls at hl ⊢
  have hl : lv_has ls 1 [(0, .ref a)] := hl
  refine lv_aload_n hx hb dX3_init_0 rfl (lv_at hl 0 rfl) ?_
  refine W.objInit hx hb hown (hts (.methodLink RX3 3 objectInit) (by decide +kernel)) (hts (.instanceMethod objectInit) (by decide +kernel)) (hts (.code objectInit ⟨#[0xb1]⟩ 1 none) (by decide +kernel)) rfl (by rw [hml]; exact hl.1) rfl dX3_init_1 (Nat.le_of_ble_eq_true rfl) (Nat.le_of_ble_eq_true rfl) ?_
  refine W.eq (g2 := F0 m 4 ls []) rfl ?_
  refine lv_aload_n hx hb dX3_init_4 rfl (lv_at hl 0 rfl) ?_
  refine lv_bipush (v := 30) hx hb dX3_init_5 (by decide) ?_
  refine i_newa hx hb (hts (.arrayClass .int) (by decide +kernel)) hw hA (by decide) (N' := 30) (by decide) (by decide) (Nat.le_of_ble_eq_true rfl) (Nat.le_of_ble_eq_true rfl) dX3_init_7 (fun q0 H hw => ?_)
  have hw : WH D cI cR A (w0 ++ [(a, .inr (3, [.null, .null])), (q0, .inl (cI, 30, .inl z32))]) s H _ := hw
  refine i_putF (ty := .array .int) hx hb hts hiX3 tyX3 tyX3_ok nmX3 hown hw 0 rfl rfl 0 (by decide) (hts (.fieldLink RX3 9 "LaceRanks$Lines" "places" "[I") (by decide +kernel)) rfl hin rfl (by decide +kernel) rfl rfl (Nat.le_of_ble_eq_true rfl) dX3_init_9 rfl (fun H locs hw => ?_)
  have hw : WH D cI cR A (w0 ++ [(a, .inr (3, [.ref q0, .null])), (q0, .inl (cI, 30, .inl z32))]) s H locs := hw
  refine lv_aload_n hx hb dX3_init_12 rfl (lv_at hl 0 rfl) ?_
  refine lv_iconst (v := 3) hx hb dX3_init_13 (by decide) ?_
  refine i_newa hx hb (hts (.arrayClass .int) (by decide +kernel)) hw hA (by decide) (N' := 3) (by decide) (by decide) (Nat.le_of_ble_eq_true rfl) (Nat.le_of_ble_eq_true rfl) dX3_init_14 (fun q1 H hw => ?_)
  have hw : WH D cI cR A (w0 ++ [(a, .inr (3, [.ref q0, .null])), (q0, .inl (cI, 30, .inl z32)), (q1, .inl (cI, 3, .inl z32))]) s H _ := hw
  refine i_putF (ty := .array .int) hx hb hts hiX3 tyX3 tyX3_ok nmX3 hown hw 0 rfl rfl 1 (by decide) (hts (.fieldLink RX3 15 "LaceRanks$Lines" "lengths" "[I") (by decide +kernel)) rfl hin rfl (by decide +kernel) rfl rfl (Nat.le_of_ble_eq_true rfl) dX3_init_16 rfl (fun H locs hw => ?_)
  have hw : WH D cI cR A (w0 ++ [(a, .inr (3, [.ref q0, .ref q1])), (q0, .inl (cI, 30, .inl z32)), (q1, .inl (cI, 3, .inl z32))]) s H locs := hw
  exact i_ret (Nat.le_of_ble_eq_true rfl) (Nat.le_of_ble_eq_true rfl) hx hb hr hlocks hw ⟨fun k => match k with | 0 => q0 | _ => q1, rfl⟩ dX3_init_19
set_option maxHeartbeats 4000000 in
set_option maxRecDepth 100000 in
theorem c_X4_init {l : Launch} {D : va_G} {cI cR : ClassId} {A : Nat → Prop} {w0 : va_W} {a : Nat} : MIN l yX4_init wsX4_init 1 14 1 60 D cI cR A [.ref a] ((w0 ++ [(a, .inr (4, [.null, .int 0]))])) (fun w' => ∃ b : Nat, w' = w0 ++ [(a, .inr (4, [.ref b, .int 0])), (b, .inl (cI, 60, .inl z32))]) := by
  refine Met.ofW (cc := cX4_init) (maxL := 1) (ret := none) (by decide) rfl ?_
  intro p e s m args below meth c s₁ B hml hv
  obtain ⟨rfl, hw, hO, hA, hC⟩ := i_start hv
  have hx := B.exec
  have hb := B.bytes
  have hr := B.returns
  have hts := atoms_spec (ws := wsX4_init) B.pre
  have hown : s.vm.findClass RX4 = some m.cls := findClass_of_methodNamed B.named
  have hlocks := B.notSynchronized
  have hin : meth.name = "<init>" := (name_of_methodNamed B.named B.method).1
  have hiX4 : ∀ w ∈ wsX40, w ∈ wsX4_init := by decide +kernel
  have hl := lv_entry ([.ref a]) (n := 1) (Nat.le_of_ble_eq_true rfl)
  rw [lg_entry_eq]
  generalize (lg_sl ([.ref a]) ++ List.replicate (1 - (lg_sl ([.ref a])).length) Slot.unset).toArray = ls at hl ⊢
  have hl : lv_has ls 1 [(0, .ref a)] := hl
  refine lv_aload_n hx hb dX4_init_0 rfl (lv_at hl 0 rfl) ?_
  refine W.objInit hx hb hown (hts (.methodLink RX4 3 objectInit) (by decide +kernel)) (hts (.instanceMethod objectInit) (by decide +kernel)) (hts (.code objectInit ⟨#[0xb1]⟩ 1 none) (by decide +kernel)) rfl (by rw [hml]; exact hl.1) rfl dX4_init_1 (Nat.le_of_ble_eq_true rfl) (Nat.le_of_ble_eq_true rfl) ?_
  refine W.eq (g2 := F0 m 4 ls []) rfl ?_
  refine lv_aload_n hx hb dX4_init_4 rfl (lv_at hl 0 rfl) ?_
  refine lv_bipush (v := 60) hx hb dX4_init_5 (by decide) ?_
  refine i_newa hx hb (hts (.arrayClass .int) (by decide +kernel)) hw hA (by decide) (N' := 60) (by decide) (by decide) (Nat.le_of_ble_eq_true rfl) (Nat.le_of_ble_eq_true rfl) dX4_init_7 (fun q0 H hw => ?_)
  have hw : WH D cI cR A (w0 ++ [(a, .inr (4, [.null, .int 0])), (q0, .inl (cI, 60, .inl z32))]) s H _ := hw
  refine i_putF (ty := .array .int) hx hb hts hiX4 tyX4 tyX4_ok nmX4 hown hw 0 rfl rfl 0 (by decide) (hts (.fieldLink RX4 9 "LaceRanks$Text" "signs" "[I") (by decide +kernel)) rfl hin rfl (by decide +kernel) rfl rfl (Nat.le_of_ble_eq_true rfl) dX4_init_9 rfl (fun H locs hw => ?_)
  have hw : WH D cI cR A (w0 ++ [(a, .inr (4, [.ref q0, .int 0])), (q0, .inl (cI, 60, .inl z32))]) s H locs := hw
  exact i_ret (Nat.le_of_ble_eq_true rfl) (Nat.le_of_ble_eq_true rfl) hx hb hr hlocks hw ⟨q0, rfl⟩ dX4_init_12
