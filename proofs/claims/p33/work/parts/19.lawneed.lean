/-! the law's own methods: what they need -/
abbrev AR (A : Nat → Prop) (r : va_W) : Nat → Prop := fun q => A q ∧ ∀ z ∈ r, z.1 ≠ q
abbrev sxw (cI : ClassId) (sa : Nat) (S : Nat → Int32) : va_W := [(sa, .inl (cI, 6, .inl S))]
section QW
variable {p : Program} {l : Launch} {e : Env} {R : Room} {s : State} {m : MethodId} {args : Array Value} {below : List Frame} {meth : Method} {c : Code} {H : Heap} {locs : List Loc} {cells slots : Nat} {Q : State → Prop}
variable {cc : ByteArray} {pc mc ms : Nat} {ls : Array Slot} {rest st0 st1 : List Value} {D : va_G} {cI cR : ClassId} {A : Nat → Prop} {a : Nat} {w w' r : va_W}
theorem WH.to (e : w = w') (hw : WH D cI cR A w s H locs) : WH D cI cR A w' s H locs := e ▸ hw
theorem WH.dropR (hw : WH D cI cR A (w ++ r) s H locs) : WH D cI cR A w s H locs := by
  obtain ⟨hP, hK, hD, hS, hN⟩ := hw
  exact ⟨(vP_app.mp hP).1, hK, (vD_app hD).1, hS, hN⟩
theorem f_sub (hw : WH D cI cR A (w ++ r) s H locs) : va_P D vwCl w H ∧ va_D (AR A r) w := by
  obtain ⟨hP, hK, hD, hS, hN⟩ := hw
  obtain ⟨Dw, Dr, ap⟩ := vD_app hD
  exact ⟨(vP_app.mp hP).1, ⟨Dw.1, fun k q hk => ⟨Dw.2 k q hk, fun z hz e => ap q (List.mem_of_getElem? hk) z hz e.symm⟩⟩⟩
theorem f_WB {U : State} (hw : WH D cI cR A (w ++ r) s H locs) (hU : U.heap = H) (hW : s.WarmedH U.vm) : WB D cI cR (AR A r) w U :=
  ⟨by rw [hU]; exact (f_sub hw).1, va_K.moved hW.alike hw.2.1, (f_sub hw).2, hw.2.2.2.2.warm hW⟩
/-- behind such a call: the rest is as it was -/
theorem f_keep {H1 : Heap} {L : List Loc} {wn : va_W} (hw : WH D cI cR A (w ++ r) s H locs) (hP' : va_P D vwCl wn H1) (hD' : va_D (AR A r) wn) (hz : H.size ≤ H1.size) (hk : ∀ q : Nat, q < H.size → ¬ AR A r q → H1[q]? = H[q]?) (hL : ∀ q ∈ L, AR A r q.base) : WH D cI cR A (wn ++ r) s H1 (locs ++ L) := by
  obtain ⟨hP, hK, hD, hS, hN⟩ := hw
  obtain ⟨Pw, Pr⟩ := vP_app.mp hP
  obtain ⟨Dw, Dr, ap⟩ := vD_app hD
  refine ⟨vP_app.mpr ⟨hP', Pr.kept (fun k q hq => hk q.1 (Pr k q hq).lt (fun h => h.2 q (List.mem_of_getElem? hq) rfl))⟩, hK, vD_mk (hD'.weaken (fun _ _ _ h => h.1)) Dr (fun q hq z hz e => ?_), ⟨Nat.le_trans hS.1 hz, fun q h1 h2 => (hk q (Nat.lt_of_lt_of_le h1 hS.1) (fun h => h2 h.1)).trans (hS.2.1 q h1 h2), fun q hq => ?_⟩, hN⟩
  · obtain ⟨i, hi⟩ := List.getElem?_of_mem hq
    exact (hD'.2 i q hi).2 z hz e.symm
  · rcases List.mem_append.mp hq with h | h
    · exact hS.2.2 q h
    · exact (hL q h).1
theorem w_run {v : Option Value} {wn : va_W} {av : Array Value} (hr : va_Run p l e R s m args below meth c H locs cells slots 0 0 (F0 m pc ls st0) rest (QV v D (AR A r) wn av) (AR A r)) (hw : WH D cI cR A (w ++ r) s H locs) (h1 : v.toList ++ rest = st1)
    (kk : ∀ (H1 : Heap) (locs1 : List Loc), WH D cI cR A (wn ++ r) s H1 locs1 → W p l e R s m args below meth c H1 locs1 cells slots Q (F0 m (pc + 3) ls st1)) : W p l e R s m args below meth c H locs cells slots Q (F0 m pc ls st0) := by
  subst h1
  intro T hT X
  obtain ⟨v', st₀, t, T', L, h0, X', hL, e1, e2, ⟨hv, hP', hD', hz, hk⟩, st⟩ := hr T hT X
  cases hv
  rw [h0] at hz hk
  obtain ⟨t2, a1, b1⟩ := kk T'.heap (locs ++ L) (f_keep hw (by rw [e1]; exact hP') hD' (by rw [e1]; exact hz) (fun q g1 g2 => by rw [e1]; exact hk q g1 g2) hL) T' rfl X'
  exact ⟨t2, st t2 a1, b1⟩
theorem q_callVr {v : Option Value} {y : MethodName} {bytes : ByteArray} {maxL nL n index fr lo ci N q0 b : Nat} {ret : Option FieldType} {ws Ts : List Cond} {own C : String} {T : u_T} {fs : List Value} (As : List Value) (S : CallFix p m c cc nL s args Ts own) (hM : MC l y ws fr lo D cI cR (AR A r) (.ref b :: As) w v w') (cw : CallW R s args own C index y bytes maxL ret ws ({ frames := fr, cells := 0, slots := 0, locals := lo }) 0 0 n)
    (hw : WH D cI cR A (w ++ r) s H locs) (he : w[q0]? = some (b, .inr (ci, fs))) (hc : vwCl[ci]? = some (C, T, N)) (hn : As.length = n) (hsize : ls.size = nL) (hst : st0 = As.reverse ++ .ref b :: rest) (hrm : (rest.map fun v => v.category).sum ≤ 8) (hdg : decode cc pc = .ok (.invokevirtual index, 3)) (hcs : cells + 0 ≤ R.cells ∧ slots + 0 ≤ R.slots) (h1 : v.toList ++ rest = st1)
    (kk : ∀ (H1 : Heap) (locs1 : List Loc), WH D cI cR A (w' ++ r) s H1 locs1 → W p l e R s m args below meth c H1 locs1 cells slots Q (F0 m (pc + 3) ls st1)) : W p l e R s m args below meth c H locs cells slots Q (F0 m pc ls st0) :=
  w_run (va_runV (g := F0 m pc ls st0) (rest := rest) S hM cw ⟨q_blind, va_recv hw.2.1 (f_sub hw).1 (ci := ci) (q0 := q0) hc he, fun U hU hW => ⟨rfl, f_WB hw hU hW⟩⟩ rfl hn hsize hst (lv_room hrm) hdg hcs) hw h1 kk
theorem q_callVO {v : Option Value} {y : MethodName} {bytes : ByteArray} {maxL nL n index fr lo ci N q0 b : Nat} {ret : Option FieldType} {ws Ts : List Cond} {own C : String} {T : u_T} {fs : List Value} (hO : OUT A s s.heap) (hA : ∀ q : Nat, s.heap.size ≤ q → A q) (As : List Value) (S : CallFix p m c cc nL s args Ts own) (hM : MO l y ws fr lo 0 0 D cI cR A (.ref b :: As) w v w') (cw : CallW R s args own C index y bytes maxL ret ws ({ frames := fr, cells := 0, slots := 0, locals := lo }) 0 0 n)
    (hw : WH D cI cR A w s H locs) (he : w[q0]? = some (b, .inr (ci, fs))) (hc : vwCl[ci]? = some (C, T, N)) (hn : As.length = n) (hsize : ls.size = nL) (hst : st0 = As.reverse ++ .ref b :: rest) (hrm : (rest.map fun v => v.category).sum ≤ 8) (hdg : decode cc pc = .ok (.invokevirtual index, 3)) (hcs : cells + 0 ≤ R.cells ∧ slots + 0 ≤ R.slots) (h1 : v.toList ++ rest = st1)
    (kk : ∀ (H1 : Heap) (locs1 : List Loc), WH D cI cR A w' s H1 locs1 → W p l e R s m args below meth c H1 locs1 cells slots Q (F0 m (pc + 3) ls st1)) : W p l e R s m args below meth c H locs cells slots Q (F0 m pc ls st0) :=
  q_run (va_runV (g := F0 m pc ls st0) (rest := rest) S hM cw (x_preV hw hO hA he hc) rfl hn hsize hst (lv_room hrm) hdg hcs) hw h1 kk
end QW
def up_ (v n : Int32) : Int32 := (v &&& 2147483647) - (v &&& 2147483647) / n * n
def upb (n : Int32) : Bool := decide (n ≠ 0)
set_option maxHeartbeats 4000000 in
set_option maxRecDepth 100000 in
theorem c_L_up {l : Launch} {D : va_G} {cI cR : ClassId} {A : Nat → Prop} {w : va_W} {v n r : Int32} (hg : upb n = true) (er : r = up_ v n) : MC l yL_up wsL_up 0 0 D cI cR A [.int v, .int n] w (some (.int r)) w := by
  refine Met.ofW (cc := cL_up) (maxL := 2) (ret := (some .int)) (by decide) rfl ?_
  intro p e s m args below meth c s₁ B hml hv
  obtain ⟨rfl, hw⟩ := q_start hv
  have hx := B.exec
  have hb := B.bytes
  have hr := B.returns
  have hts := atoms_spec (ws := wsL_up) B.pre
  have hown : s.vm.findClass RL = some m.cls := findClass_of_methodNamed B.named
  have hlocks := B.notSynchronized
  have hl := lv_entry ([.int v, .int n]) (n := 2) (Nat.le_of_ble_eq_true rfl)
  rw [lg_entry_eq]
  generalize (lg_sl ([.int v, .int n]) ++ List.replicate (2 - (lg_sl ([.int v, .int n])).length) Slot.unset).toArray = ls at hl ⊢
  have hl : lv_has ls 2 [(0, .int v), (1, .int n)] := hl
  refine lv_iload_n hx hb dL_up_0 rfl (lv_at hl 0 rfl) ?_
  refine lv_ldc (v := 2147483647) hx hb hown (hts (.constant RL 8 2147483647) (by decide +kernel)) dL_up_1 ?_
  refine lv_iand hx hb dL_up_3 ?_
  refine lv_iload_n hx hb dL_up_4 rfl (lv_at hl 1 rfl) ?_
  refine lv_irem hx hb dL_up_5 (of_decide_eq_true hg) ?_
  refine q_is er ?_
  exact q_iret hx hb hr hlocks hw dL_up_6
