/-! methods that throw: what they need beside their world, and how they end -/
def exN : Nat → String := fun k => match k with
  | 1 => "java/lang/IndexOutOfBoundsException"
  | 2 => "java/lang/IllegalArgumentException"
  | _ => "java/lang/IllegalStateException"
def SA (n : String) (xs : Nat → Int32) (A : Nat → Prop) (U : State) (H : Heap) : Prop := ∃ a : Nat, va_Z "LaceRanks" n "[I" (.ref a) A U H ∧ va_X a 6 xs U H ∧ a < H.size ∧ ¬ A a
def saF : Nat → Int32 := fun k => match k with | 0 => 2 | 1 => 4 | 2 => 3 | 3 => 2 | 4 => 2 | _ => 10
def saL : Nat → Int32 := fun k => match k with | 0 => 0 | 1 => 0 | 2 => 0 | 3 => 1 | 4 => 1 | _ => 0
def saM : Nat → Int32 := fun k => match k with | 0 => 20 | 1 => 10 | 2 => 9 | 3 => 9 | 4 => 9 | _ => 99
/-- the words of a throw that the tables' growth is asked for one by one -/
def cdL : List Cond := ((vx_atS RX5 243 "java/lang/IndexOutOfBoundsException" ["java/lang/RuntimeException", "java/lang/Exception"]) ++ (vx_atS RX5 252 "java/lang/IllegalArgumentException" ["java/lang/RuntimeException", "java/lang/Exception"]) ++ (vx_atS RX5 257 "java/lang/IllegalStateException" ["java/lang/RuntimeException", "java/lang/Exception"])).filter (fun w => !goodWord w)
def isCD (w : Cond) : Bool := match w with
  | .castable .. => true
  | .declares _ => true
  | _ => false
theorem cdL_cd : ∀ w ∈ cdL, isCD w = true := by decide +kernel
def CD (U : State) : Prop := ∀ w ∈ cdL, va_Nw w U
theorem CD.warm {s U : State} (hW : s.WarmedH U.vm) (h : CD s) : CD U := by
  intro w hw
  have h1 := cdL_cd w hw
  have h0 := h w hw
  cases w <;> first | exact va_Nw.warmC hW h0 | exact va_Nw.warmD hW h0 | cases h1
theorem CD.same {u U : State} (hv : u.vm = U.vm) (h : CD u) : CD U := by
  intro w hw
  have h1 := cdL_cd w hw
  have h0 := h w hw
  cases w <;> first | exact va_Nw.same rfl hv h0 | cases h1
theorem castH {args : Array Value} {s : State} {L B : List Cond} (h0 : ∀ w ∈ L.filter (fun w => !goodWord w), w ∈ cdL) (h1 : ∀ w ∈ L.filter goodWord, w ∈ B) (hts : ∀ w ∈ B, w.before args s = true) (h2 : CD s) : ∀ w ∈ L, w.before args s = true :=
  vx_hat (fun w hw => hts w (h1 w hw)) h0 (fun w hw => by
    have h3 := cdL_cd w hw
    have h4 := h2 w hw
    cases w <;> first | exact va_Nw.use rfl h4 | cases h3)
/-- what lies outside the worlds: the two statics of Throwable, four texts, three rows of numbers -/
def OUT (A : Nat → Prop) (U : State) (H : Heap) : Prop := vx_Zq Bundle.tN "UNASSIGNED_STACK" Bundle.steD A U H ∧ vx_Zq Bundle.tN "SUPPRESSED_SENTINEL" Bundle.listD A U H
  ∧ (∃ sa, vk_R RX5 241 "there is no such guest" sa U) ∧ (∃ sa, vk_R RX5 246 "there is no such gate or setting" sa U) ∧ (∃ sa, vk_R RX5 250 "an argument, or the text, is not as it must be" sa U) ∧ (∃ sa, vk_R RX5 255 "this cannot be now" sa U)
  ∧ CD U ∧ SA "SETTING_FIRST" saF A U H ∧ SA "SETTING_LEAST" saL A U H ∧ SA "SETTING_MOST" saM A U H
theorem SA.go {n : String} {xs : Nat → Int32} {A : Nat → Prop} {s U : State} {H : Heap} {locs : List Loc} (h : SA n xs A s s.heap) (hS : va_S A s.heap H locs) (hU : U.heap = H) (hW : s.WarmedH U.vm) : SA n xs A U U.heap := by
  obtain ⟨a, h1, h2, h3, h4⟩ := h
  rw [hU]
  exact ⟨a, va_Z.moved hW.alike (h1.kept (fun b hb hA => hS.2.1 b hb hA)), va_X.moved hW.alike (h2.kept (hS.2.1 a h3 h4)), Nat.lt_of_lt_of_le h3 hS.1, h4⟩
theorem OUT.go {A : Nat → Prop} {s U : State} {H : Heap} {locs : List Loc} (h : OUT A s s.heap) (hS : va_S A s.heap H locs) (hU : U.heap = H) (hW : s.WarmedH U.vm) : OUT A U U.heap := by
  obtain ⟨h1, h2, ⟨a3, h3⟩, ⟨a4, h4⟩, ⟨a5, h5⟩, ⟨a6, h6⟩, c1, h7, h8, h9⟩ := h
  exact ⟨by rw [hU]; exact vx_Zq.moved hW.alike (h1.kept (fun b hb hA => hS.2.1 b hb hA)), by rw [hU]; exact vx_Zq.moved hW.alike (h2.kept (fun b hb hA => hS.2.1 b hb hA)), ⟨a3, h3.warm hW⟩, ⟨a4, h4.warm hW⟩, ⟨a5, h5.warm hW⟩, ⟨a6, h6.warm hW⟩, c1.warm hW, h7.go hS hU hW, h8.go hS hU hW, h9.go hS hU hW⟩
theorem SA.same {n : String} {xs : Nat → Int32} {A : Nat → Prop} {u U : State} (h : SA n xs A u u.heap) (hU : U.heap = u.heap) (hv : u.vm = U.vm) : SA n xs A U U.heap := by
  have hal : u.vm.Alike U.vm := by rw [hv]; exact Vm.Alike.refl _
  obtain ⟨a, h1, h2, h3, h4⟩ := h
  rw [hU]
  exact ⟨a, va_Z.moved hal h1, va_X.moved hal h2, h3, h4⟩
theorem OUT.same {A : Nat → Prop} {u U : State} (h : OUT A u u.heap) (hU : U.heap = u.heap) (hv : u.vm = U.vm) : OUT A U U.heap := by
  have hal : u.vm.Alike U.vm := by rw [hv]; exact Vm.Alike.refl _
  obtain ⟨h1, h2, ⟨a3, h3⟩, ⟨a4, h4⟩, ⟨a5, h5⟩, ⟨a6, h6⟩, c1, h7, h8, h9⟩ := h
  exact ⟨by rw [hU]; exact vx_Zq.moved hal h1, by rw [hU]; exact vx_Zq.moved hal h2, ⟨a3, h3.same hv.symm⟩, ⟨a4, h4.same hv.symm⟩, ⟨a5, h5.same hv.symm⟩, ⟨a6, h6.same hv.symm⟩, c1.same hv, h7.same hU hv, h8.same hU hv, h9.same hU hv⟩
def PX (D : va_G) (cI cR : ClassId) (A : Nat → Prop) (w : va_W) (U : State) : Prop := WB D cI cR A w U ∧ OUT A U U.heap ∧ ∀ q : Nat, U.heap.size ≤ q → A q
def QX {ρ : Type} (res : Nat ⊕ ρ) (vf : ρ → Option Value) (wf : ρ → va_W) (D : va_G) (A : Nat → Prop) : Array Value → State → Outcome → State → Prop := fun _ st oc t => ∃ u : ρ, res = .inr u ∧ oc = .returned (vf u) ∧ va_P D vwCl (wf u) t.heap ∧ va_D A (wf u) ∧ va_F A st t
def XX {ρ : Type} (res : Nat ⊕ ρ) (w : va_W) (D : va_G) (A : Nat → Prop) : String → State → State → Prop := fun E st t => ∃ k : Nat, res = .inl k ∧ E = exN k ∧ va_P D vwCl w t.heap ∧ va_D A w ∧ va_F A st t
abbrev MX {ρ : Type} (l : Launch) (y : MethodName) (ws : List Cond) (fr lo mc ms : Nat) (D : va_G) (cI cR : ClassId) (A : Nat → Prop) (av : List Value) (w : va_W) (res : Nat ⊕ ρ) (vf : ρ → Option Value) (wf : ρ → va_W) : Prop := vx_Met l y ws ({ frames := fr, cells := mc, slots := ms, locals := lo }) (va_Pc av (PX D cI cR A w)) (QX res vf wf D A) (XX res w D A) mc ms A
theorem x_blind {D : va_G} {cI cR : ClassId} {A : Nat → Prop} {w : va_W} {av : List Value} : FrameBlind (va_Pc av (PX D cI cR A w)) := fun a U g mk h => ⟨h.1, (q_blind a U g mk ⟨h.1, h.2.1⟩).2, h.2.2.1.same (u := U) (U := U.calling g mk a) rfl rfl, h.2.2.2⟩
theorem x_start {D : va_G} {cI cR : ClassId} {A : Nat → Prop} {w : va_W} {av : List Value} {args : Array Value} {s : State} (h : va_Pc av (PX D cI cR A w) args s) : args = av.toArray ∧ WH D cI cR A w s s.heap [] ∧ OUT A s s.heap ∧ ∀ q : Nat, s.heap.size ≤ q → A q := ⟨h.1, (q_start ⟨h.1, h.2.1⟩).2, h.2.2.1, h.2.2.2⟩
/-- the code of a throwing method: a result that may be a throw -/
def bx {α β : Type} (x : Nat ⊕ α) (f : α → Option (Nat ⊕ β)) : Option (Nat ⊕ β) := match x with
  | .inl k => some (.inl k)
  | .inr a => f a
section QX
variable {p : Program} {l : Launch} {e : Env} {R : Room} {s : State} {m : MethodId} {args : Array Value} {below : List Frame} {meth : Method} {c : Code} {H : Heap} {locs : List Loc} {cells slots : Nat} {Q : State → Prop}
variable {cc : ByteArray} {pc mc ms : Nat} {ls : Array Slot} {rest st0 st1 : List Value} {D : va_G} {cI cR : ClassId} {A : Nat → Prop} {a : Nat} {w w' : va_W}
theorem x_preS {av : List Value} (hw : WH D cI cR A w s H locs) (hO : OUT A s s.heap) (hA : ∀ q : Nat, s.heap.size ≤ q → A q) : PreS s H (va_Pc av (PX D cI cR A w)) av := ⟨x_blind, fun U hU hW => ⟨rfl, ((q_preS (av := av) hw).2 U hU hW).2, hO.go hw.2.2.2.1 hU hW, fun q hq => hA q (Nat.le_trans hw.2.2.2.1.1 (by rw [← hU]; exact hq))⟩⟩
theorem x_preV {C : String} {T : u_T} {N ci q0 b : Nat} {fs As : List Value} (hw : WH D cI cR A w s H locs) (hO : OUT A s s.heap) (hA : ∀ q : Nat, s.heap.size ≤ q → A q) (he : w[q0]? = some (b, .inr (ci, fs))) (hc : vwCl[ci]? = some (C, T, N)) : PreV s H C b (va_Pc (.ref b :: As) (PX D cI cR A w)) As := ⟨x_blind, va_recv hw.2.1 hw.1 (ci := ci) (q0 := q0) hc he, (x_preS (av := .ref b :: As) hw hO hA).2⟩
theorem x_run {ρ : Type} {res : Nat ⊕ ρ} {vf : ρ → Option Value} {wf : ρ → va_W} {av : Array Value} (hr : vx_Run p l e R s m args below meth c H locs cells slots mc ms (F0 m pc ls st0) rest (QX res vf wf D A av) (XX res w D A) A) (hw : WH D cI cR A w s H locs)
    (k2 : ∀ k : Nat, res = .inl k → ∀ (H1 : Heap) (locs1 : List Loc) (q : Addr) (ce : Cell), WH D cI cR A w s H1 locs1 → H1[q]? = some ce → ce.vm = .none → s.vm.findClass (exN k) = some ce.cls → vx_W p l e R s m args below meth c H1 locs1 (cells + mc) (slots + ms) Q (F0 m pc ls rest) q)
    (k1 : ∀ u : ρ, res = .inr u → ∀ (H1 : Heap) (locs1 : List Loc), WH D cI cR A (wf u) s H1 locs1 → W p l e R s m args below meth c H1 locs1 (cells + mc) (slots + ms) Q (F0 m (pc + 3) ls ((vf u).toList ++ rest))) : W p l e R s m args below meth c H locs cells slots Q (F0 m pc ls st0) := by
  obtain ⟨hP, hK, hD, hS, hN⟩ := hw
  intro T hT X
  rcases hr T hT X with ⟨v, st₀, t, T', L, h0, X', hL, e1, e2, ⟨u, hu, hv, hP', hD', hF⟩, st⟩ | ⟨q, st₀, t, T', L, E, ce, h0, X', hL, e1, e2, ⟨k, hk, hE, hP', hD', hF⟩, hce, hcv, hcl, st⟩
  · cases hv
    obtain ⟨-, -, h3⟩ := vx_keep h0 e1 hS (fun _ _ h => h) (fun _ h => h) hL hF
    obtain ⟨t2, a1, b1⟩ := k1 u hu T'.heap (locs ++ L) ⟨by rw [e1]; exact hP', hK, hD', h3, hN⟩ T' rfl X'
    exact ⟨t2, st t2 a1, b1⟩
  · obtain ⟨-, -, h3⟩ := vx_keep h0 e1 hS (fun _ _ h => h) (fun _ h => h) hL hF
    subst hE
    obtain ⟨t2, a1, b1⟩ := k2 k hk T'.heap (locs ++ L) q ce ⟨by rw [e1]; exact hP', hK, hD', h3, hN⟩ (by rw [e1]; exact hce) hcv hcl T' rfl X'
    exact ⟨t2, st.trans a1, b1⟩
theorem x_out {ρ : Type} {res : Nat ⊕ ρ} {Qc : Array Value → State → Outcome → State → Prop} {w0 : va_W} {k : Nat} {q : Addr} {ce : Cell} (hres : res = .inl k) (hno : ∀ x ∈ c.exceptionTable.toList, False) (hlocks : meth.locks = false) (hw : WH D cI cR A w0 s H locs) (hcell : H[q]? = some ce) (hv : ce.vm = .none) (hcl : s.vm.findClass (exN k) = some ce.cls) (hc : cells ≤ mc) (hs : slots ≤ ms) :
    vx_W p l e R s m args below meth c H locs cells slots (vx_MQ below Qc (XX res w0 D A) args s mc ms A) (F0 m pc ls rest) q :=
  vx_out (fun x hx => (hno x hx).elim) hlocks hcell hv hcl (fun t ht _ => ⟨k, hres, rfl, by rw [ht]; exact hw.1, hw.2.2.1, hw.2.2.2.1.F ht⟩) hw.2.2.2.1.2.2 hc hs
theorem x_ret {ρ : Type} {res : Nat ⊕ ρ} {vf : ρ → Option Value} {wf : ρ → va_W} {XC : String → State → State → Prop} {g : JFrame} (hc : cells ≤ mc) (hs : slots ≤ ms) (k : W p l e R s m args below meth c H locs mc ms (MQ below (QX res vf wf D A) args s mc ms A) g) : W p l e R s m args below meth c H locs cells slots (vx_MQ below (QX res vf wf D A) XC args s mc ms A) g :=
  vx_ret (W.widen hc hs k)
theorem x_iret {ρ : Type} {res : Nat ⊕ ρ} {vf : ρ → Option Value} {wf : ρ → va_W} {u : ρ} {v : Int32} (hres : res = .inr u) (hvf : vf u = some (.int v)) (hexec : p.tables.exec = Jvm.exec) (hb : c.code = cc) (hr : meth.sig.returnType = some .int) (hlocks : meth.locks = false) (hw : WH D cI cR A (wf u) s H locs) (hdg : decode cc pc = .ok (.ireturn, 1)) : W p l e R s m args below meth c H locs cells slots (MQ below (QX res vf wf D A) args s cells slots A) (F0 m pc ls [.int v]) :=
  W.iret hexec hb hr (fun t ht _ => ⟨u, hres, by rw [hvf], by rw [ht]; exact hw.1, hw.2.2.1, hw.2.2.2.1.F ht⟩) hw.2.2.2.1.2.2 hdg hlocks
theorem x_vret {ρ : Type} {res : Nat ⊕ ρ} {vf : ρ → Option Value} {wf : ρ → va_W} {u : ρ} (hres : res = .inr u) (hvf : vf u = none) (hexec : p.tables.exec = Jvm.exec) (hb : c.code = cc) (hr : meth.sig.returnType = none) (hlocks : meth.locks = false) (hw : WH D cI cR A (wf u) s H locs) (hdg : decode cc pc = .ok (.return_, 1)) : W p l e R s m args below meth c H locs cells slots (MQ below (QX res vf wf D A) args s cells slots A) (F0 m pc ls []) :=
  W.vret hexec hb hr (fun t ht _ => ⟨u, hres, by rw [hvf], by rw [ht]; exact hw.1, hw.2.2.1, hw.2.2.2.1.F ht⟩) hw.2.2.2.1.2.2 hdg hlocks
end QX
def f_need (k : Nat) (b : Int32) : Nat ⊕ Unit := if b = 0 then .inl k else .inr ()
set_option maxRecDepth 20000 in
theorem atS_243 : ∀ w ∈ (vx_atS RX5 243 "java/lang/IndexOutOfBoundsException" ["java/lang/RuntimeException", "java/lang/Exception"]).filter (fun w => !goodWord w), w ∈ cdL := by decide +kernel
set_option maxRecDepth 20000 in
theorem atO_243 : ∀ w ∈ Cond.classLink RX5 239 "java/lang/IndexOutOfBoundsException" :: Cond.initialized "java/lang/IndexOutOfBoundsException" :: vx_atS RX5 243 "java/lang/IndexOutOfBoundsException" ["java/lang/RuntimeException", "java/lang/Exception"], vx_ot w = true := by decide +kernel
set_option maxRecDepth 20000 in
theorem atS_252 : ∀ w ∈ (vx_atS RX5 252 "java/lang/IllegalArgumentException" ["java/lang/RuntimeException", "java/lang/Exception"]).filter (fun w => !goodWord w), w ∈ cdL := by decide +kernel
set_option maxRecDepth 20000 in
theorem atO_252 : ∀ w ∈ Cond.classLink RX5 248 "java/lang/IllegalArgumentException" :: Cond.initialized "java/lang/IllegalArgumentException" :: vx_atS RX5 252 "java/lang/IllegalArgumentException" ["java/lang/RuntimeException", "java/lang/Exception"], vx_ot w = true := by decide +kernel
set_option maxRecDepth 20000 in
theorem atS_257 : ∀ w ∈ (vx_atS RX5 257 "java/lang/IllegalStateException" ["java/lang/RuntimeException", "java/lang/Exception"]).filter (fun w => !goodWord w), w ∈ cdL := by decide +kernel
set_option maxRecDepth 20000 in
theorem atO_257 : ∀ w ∈ Cond.classLink RX5 253 "java/lang/IllegalStateException" :: Cond.initialized "java/lang/IllegalStateException" :: vx_atS RX5 257 "java/lang/IllegalStateException" ["java/lang/RuntimeException", "java/lang/Exception"], vx_ot w = true := by decide +kernel
set_option maxHeartbeats 4000000 in
set_option maxRecDepth 100000 in
theorem c_X5_needIndex {l : Launch} {D : va_G} {cI cR : ClassId} {A : Nat → Prop} {w : va_W} {b : Int32} (htr : l.stackTraces = false) : MX l yX5_needIndex wsX5_needIndex 6 95 1 6 D cI cR A [.int b] w (f_need 1 b) (fun _ => none) (fun _ => w) := by
  refine vx_ofW (cc := cX5_needIndex) (maxL := 1) (ret := none) (by decide) rfl ?_
  intro p e s m args below meth c s₁ B hml hno hv
  obtain ⟨rfl, hw, hO, hA⟩ := x_start hv
  have hx := B.exec
  have hb := B.bytes
  have hr := B.returns
  have hts := atoms_spec (ws := wsX5_needIndex) B.pre
  have hown : s.vm.findClass RX5 = some m.cls := findClass_of_methodNamed B.named
  have hlocks := B.notSynchronized
  have hl := lv_entry ([.int b]) (n := 1) (Nat.le_of_ble_eq_true rfl)
  rw [lg_entry_eq]
  generalize (lg_sl ([.int b]) ++ List.replicate (1 - (lg_sl ([.int b])).length) Slot.unset).toArray = ls at hl ⊢
  have hl : lv_has ls 1 [(0, .int b)] := hl
  obtain ⟨-, -, ⟨sa1, hs1⟩, ⟨sa2, hs2⟩, ⟨sa3, hs3⟩, ⟨sa4, hs4⟩, -⟩ := id hO
  refine lv_iload_n hx hb dX5_needIndex_0 rfl (lv_at hl 0 rfl) ?_
  refine lv_if_ne (tgt := 14) hx hb dX5_needIndex_1 (by decide) (fun hc => ?_) (fun hc => ?_)
  · refine x_ret (Nat.zero_le _) (Nat.zero_le _) ?_
    exact x_vret (u := ()) (by rw [f_need, if_neg hc]) rfl hx hb hr hlocks hw dX5_needIndex_14
  · refine vx_throwS (A := A) hx hb htr hown (names := ["java/lang/RuntimeException", "java/lang/Exception"]) (by decide) (by decide) (hts (.classLink RX5 239 "java/lang/IndexOutOfBoundsException") (by decide +kernel)) (hts (.initialized "java/lang/IndexOutOfBoundsException") (by decide +kernel)) hs2 (castH atS_243 (fun w hw => List.mem_cons_of_mem _ (List.mem_append_right _ hw)) hts hO.2.2.2.2.2.2.1) atO_243 hO.1 hO.2.1 hw.2.2.2.1 (hl.1.trans hml.symm) dX5_needIndex_4 dX5_needIndex_7 dX5_needIndex_8 dX5_needIndex_10 dX5_needIndex_13 (fun x hx => (hno x hx).elim) (Nat.le_of_ble_eq_true rfl) (Nat.le_of_ble_eq_true rfl) (Nat.le_of_ble_eq_true rfl) (Nat.le_of_ble_eq_true rfl) hlocks (fun t hal hz hk => ⟨1, by rw [f_need, if_pos hc], rfl, hw.1.kept (fun k q hq => hk q.1 (hw.1 k q hq).lt), hw.2.2.1, ⟨Nat.le_trans hw.2.2.2.1.1 hz, fun q h1 h2 => (hk q (Nat.lt_of_lt_of_le h1 hw.2.2.2.1.1)).trans (hw.2.2.2.1.2.1 q h1 h2)⟩⟩) hw.2.2.2.1.2.2 (Nat.le_of_ble_eq_true rfl) (Nat.le_of_ble_eq_true rfl)
set_option maxHeartbeats 4000000 in
set_option maxRecDepth 100000 in
theorem c_X5_needArgument {l : Launch} {D : va_G} {cI cR : ClassId} {A : Nat → Prop} {w : va_W} {b : Int32} (htr : l.stackTraces = false) : MX l yX5_needArgument wsX5_needArgument 6 95 1 6 D cI cR A [.int b] w (f_need 2 b) (fun _ => none) (fun _ => w) := by
  refine vx_ofW (cc := cX5_needArgument) (maxL := 1) (ret := none) (by decide) rfl ?_
  intro p e s m args below meth c s₁ B hml hno hv
  obtain ⟨rfl, hw, hO, hA⟩ := x_start hv
  have hx := B.exec
  have hb := B.bytes
  have hr := B.returns
  have hts := atoms_spec (ws := wsX5_needArgument) B.pre
  have hown : s.vm.findClass RX5 = some m.cls := findClass_of_methodNamed B.named
  have hlocks := B.notSynchronized
  have hl := lv_entry ([.int b]) (n := 1) (Nat.le_of_ble_eq_true rfl)
  rw [lg_entry_eq]
  generalize (lg_sl ([.int b]) ++ List.replicate (1 - (lg_sl ([.int b])).length) Slot.unset).toArray = ls at hl ⊢
  have hl : lv_has ls 1 [(0, .int b)] := hl
  obtain ⟨-, -, ⟨sa1, hs1⟩, ⟨sa2, hs2⟩, ⟨sa3, hs3⟩, ⟨sa4, hs4⟩, -⟩ := id hO
  refine lv_iload_n hx hb dX5_needArgument_0 rfl (lv_at hl 0 rfl) ?_
  refine lv_if_ne (tgt := 14) hx hb dX5_needArgument_1 (by decide) (fun hc => ?_) (fun hc => ?_)
  · refine x_ret (Nat.zero_le _) (Nat.zero_le _) ?_
    exact x_vret (u := ()) (by rw [f_need, if_neg hc]) rfl hx hb hr hlocks hw dX5_needArgument_14
  · refine vx_throwS (A := A) hx hb htr hown (names := ["java/lang/RuntimeException", "java/lang/Exception"]) (by decide) (by decide) (hts (.classLink RX5 248 "java/lang/IllegalArgumentException") (by decide +kernel)) (hts (.initialized "java/lang/IllegalArgumentException") (by decide +kernel)) hs3 (castH atS_252 (fun w hw => List.mem_cons_of_mem _ (List.mem_append_right _ hw)) hts hO.2.2.2.2.2.2.1) atO_252 hO.1 hO.2.1 hw.2.2.2.1 (hl.1.trans hml.symm) dX5_needArgument_4 dX5_needArgument_7 dX5_needArgument_8 dX5_needArgument_10 dX5_needArgument_13 (fun x hx => (hno x hx).elim) (Nat.le_of_ble_eq_true rfl) (Nat.le_of_ble_eq_true rfl) (Nat.le_of_ble_eq_true rfl) (Nat.le_of_ble_eq_true rfl) hlocks (fun t hal hz hk => ⟨2, by rw [f_need, if_pos hc], rfl, hw.1.kept (fun k q hq => hk q.1 (hw.1 k q hq).lt), hw.2.2.1, ⟨Nat.le_trans hw.2.2.2.1.1 hz, fun q h1 h2 => (hk q (Nat.lt_of_lt_of_le h1 hw.2.2.2.1.1)).trans (hw.2.2.2.1.2.1 q h1 h2)⟩⟩) hw.2.2.2.1.2.2 (Nat.le_of_ble_eq_true rfl) (Nat.le_of_ble_eq_true rfl)
set_option maxHeartbeats 4000000 in
set_option maxRecDepth 100000 in
theorem c_X5_needState {l : Launch} {D : va_G} {cI cR : ClassId} {A : Nat → Prop} {w : va_W} {b : Int32} (htr : l.stackTraces = false) : MX l yX5_needState wsX5_needState 6 95 1 6 D cI cR A [.int b] w (f_need 3 b) (fun _ => none) (fun _ => w) := by
  refine vx_ofW (cc := cX5_needState) (maxL := 1) (ret := none) (by decide) rfl ?_
  intro p e s m args below meth c s₁ B hml hno hv
  obtain ⟨rfl, hw, hO, hA⟩ := x_start hv
  have hx := B.exec
  have hb := B.bytes
  have hr := B.returns
  have hts := atoms_spec (ws := wsX5_needState) B.pre
  have hown : s.vm.findClass RX5 = some m.cls := findClass_of_methodNamed B.named
  have hlocks := B.notSynchronized
  have hl := lv_entry ([.int b]) (n := 1) (Nat.le_of_ble_eq_true rfl)
  rw [lg_entry_eq]
  generalize (lg_sl ([.int b]) ++ List.replicate (1 - (lg_sl ([.int b])).length) Slot.unset).toArray = ls at hl ⊢
  have hl : lv_has ls 1 [(0, .int b)] := hl
  obtain ⟨-, -, ⟨sa1, hs1⟩, ⟨sa2, hs2⟩, ⟨sa3, hs3⟩, ⟨sa4, hs4⟩, -⟩ := id hO
  refine lv_iload_n hx hb dX5_needState_0 rfl (lv_at hl 0 rfl) ?_
  refine lv_if_ne (tgt := 14) hx hb dX5_needState_1 (by decide) (fun hc => ?_) (fun hc => ?_)
  · refine x_ret (Nat.zero_le _) (Nat.zero_le _) ?_
    exact x_vret (u := ()) (by rw [f_need, if_neg hc]) rfl hx hb hr hlocks hw dX5_needState_14
  · refine vx_throwS (A := A) hx hb htr hown (names := ["java/lang/RuntimeException", "java/lang/Exception"]) (by decide) (by decide) (hts (.classLink RX5 253 "java/lang/IllegalStateException") (by decide +kernel)) (hts (.initialized "java/lang/IllegalStateException") (by decide +kernel)) hs4 (castH atS_257 (fun w hw => List.mem_cons_of_mem _ (List.mem_append_right _ hw)) hts hO.2.2.2.2.2.2.1) atO_257 hO.1 hO.2.1 hw.2.2.2.1 (hl.1.trans hml.symm) dX5_needState_4 dX5_needState_7 dX5_needState_8 dX5_needState_10 dX5_needState_13 (fun x hx => (hno x hx).elim) (Nat.le_of_ble_eq_true rfl) (Nat.le_of_ble_eq_true rfl) (Nat.le_of_ble_eq_true rfl) (Nat.le_of_ble_eq_true rfl) hlocks (fun t hal hz hk => ⟨3, by rw [f_need, if_pos hc], rfl, hw.1.kept (fun k q hq => hk q.1 (hw.1 k q hq).lt), hw.2.2.1, ⟨Nat.le_trans hw.2.2.2.1.1 hz, fun q h1 h2 => (hk q (Nat.lt_of_lt_of_le h1 hw.2.2.2.1.1)).trans (hw.2.2.2.1.2.1 q h1 h2)⟩⟩) hw.2.2.2.1.2.2 (Nat.le_of_ble_eq_true rfl) (Nat.le_of_ble_eq_true rfl)
def f_needG (K : RK) (g : Int32) : Nat ⊕ Unit := if (if g < 0 then (0 : Int32) else if K 12 0 ≤ g then 0 else 1) = 0 then .inl 1 else .inr ()
theorem has_eq (K : RK) (g : Int32) : f_X1_has K g = some (if g < 0 then (0 : Int32) else if K 12 0 ≤ g then 0 else 1) := by
  unfold f_X1_has
  split
  · rfl
  · split <;> rfl
set_option maxHeartbeats 4000000 in
set_option maxRecDepth 100000 in
theorem c_X5_needGuest {l : Launch} {D : va_G} {cI cR : ClassId} {ad : Nat → Nat} {A : Nat → Prop} {O : XO} {K : RK} {b : Int32} (htr : l.stackTraces = false) : MX l yX5_needGuest wsX5_needGuest 6 95 1 6 D cI cR A [.ref (ad 0), .int b] (xws cI cR ad O K) (f_needG K b) (fun _ => none) (fun _ => xws cI cR ad O K) := by
  refine vx_ofW (cc := cX5_needGuest) (maxL := 2) (ret := none) (by decide) rfl ?_
  intro p e s m args below meth c s₁ B hml hno hv
  obtain ⟨rfl, hw, hO, hA⟩ := x_start hv
  have hx := B.exec
  have hb := B.bytes
  have hr := B.returns
  have hts := atoms_spec (ws := wsX5_needGuest) B.pre
  have hown : s.vm.findClass RX5 = some m.cls := findClass_of_methodNamed B.named
  have hlocks := B.notSynchronized
  have hiX5 : ∀ w ∈ wsX50, w ∈ wsX5_needGuest := by decide +kernel
  have hiX0 : ∀ w ∈ wsX00, w ∈ wsX5_needGuest := by decide +kernel
  have hl := lv_entry ([.ref (ad 0), .int b]) (n := 2) (Nat.le_of_ble_eq_true rfl)
  rw [lg_entry_eq]
  generalize (lg_sl ([.ref (ad 0), .int b]) ++ List.replicate (2 - (lg_sl ([.ref (ad 0), .int b])).length) Slot.unset).toArray = ls at hl ⊢
  have hl : lv_has ls 2 [(0, .ref (ad 0)), (1, .int b)] := hl
  obtain ⟨-, -, ⟨sa1, hs1⟩, ⟨sa2, hs2⟩, ⟨sa3, hs3⟩, ⟨sa4, hs4⟩, -⟩ := id hO
  refine lv_aload_n hx hb dX5_needGuest_0 rfl (lv_at hl 0 rfl) ?_
  refine q_get hx hb hts hiX5 hown hw 0 xa_0 rfl 0 (by decide) (hts (.fieldLink RX5 10 "LaceRanks" "now" "LLaceRanks$Carnival;") (by decide +kernel)) rfl dX5_needGuest_1 ?_
  refine q_getN hx hb hts hiX0 hown hw 1 xa_1 rfl 0 (by decide) (nw_X5_45 hw.2.2.2.2) rfl dX5_needGuest_4 ?_
  refine lv_iload_n hx hb dX5_needGuest_7 rfl (lv_at hl 1 rfl) ?_
  refine q_callVN (rest := []) (st1 := [.int (if b < 0 then (0 : Int32) else if K 12 0 ≤ b then 0 else 1)]) [.int b] ⟨hx, hb, hml, hown, hts⟩ (c_X1_has (has_eq K b)) ⟨va_cnB 1 hts gX5_needGuest_X1_has_n236 rfl rfl rfl (nw_X5_236 hw.2.2.2.2) (hts (.initialized RX1) (by decide +kernel)) (by decide +kernel) ⟨Nat.le_of_ble_eq_true rfl, Nat.le_of_ble_eq_true rfl⟩, (hts (.instanceMethod yX1_has) (by decide +kernel)), (hts (.selects RX1 yX1_has yX1_has) (by decide +kernel))⟩ hw xa_2 rfl rfl hl.1 rfl (Nat.le_of_ble_eq_true rfl) dX5_needGuest_8 ⟨Nat.zero_le _, Nat.zero_le _⟩ rfl (fun H locs hw => ?_)
  refine lv_if_ne (tgt := 24) hx hb dX5_needGuest_11 (by decide) (fun hc => ?_) (fun hc => ?_)
  · refine x_ret (Nat.zero_le _) (Nat.zero_le _) ?_
    exact x_vret (u := ()) (by rw [f_needG, if_neg hc]) rfl hx hb hr hlocks hw dX5_needGuest_24
  · refine vx_throwS (A := A) hx hb htr hown (names := ["java/lang/RuntimeException", "java/lang/Exception"]) (by decide) (by decide) (hts (.classLink RX5 239 "java/lang/IndexOutOfBoundsException") (by decide +kernel)) (hts (.initialized "java/lang/IndexOutOfBoundsException") (by decide +kernel)) hs1 (castH atS_243 (fun w hw => List.mem_cons_of_mem _ (List.mem_append_right _ hw)) hts hO.2.2.2.2.2.2.1) atO_243 hO.1 hO.2.1 hw.2.2.2.1 (hl.1.trans hml.symm) dX5_needGuest_14 dX5_needGuest_17 dX5_needGuest_18 dX5_needGuest_20 dX5_needGuest_23 (fun x hx => (hno x hx).elim) (Nat.le_of_ble_eq_true rfl) (Nat.le_of_ble_eq_true rfl) (Nat.le_of_ble_eq_true rfl) (Nat.le_of_ble_eq_true rfl) hlocks (fun t hal hz hk => ⟨1, by rw [f_needG, if_pos hc], rfl, hw.1.kept (fun k q hq => hk q.1 (hw.1 k q hq).lt), hw.2.2.1, ⟨Nat.le_trans hw.2.2.2.1.1 hz, fun q h1 h2 => (hk q (Nat.lt_of_lt_of_le h1 hw.2.2.2.1.1)).trans (hw.2.2.2.1.2.1 q h1 h2)⟩⟩) hw.2.2.2.1.2.2 (Nat.le_of_ble_eq_true rfl) (Nat.le_of_ble_eq_true rfl)
