/-! calls within a larger world; the law's wrappers -/
def ncL : List (String × String) := [("java/lang/IllegalStateException", "java/lang/IllegalArgumentException"), ("java/lang/IllegalStateException", "java/lang/IndexOutOfBoundsException"), ("java/lang/IllegalArgumentException", "java/lang/IndexOutOfBoundsException")]
def NC (U : State) : Prop := ∀ q ∈ ncL, va_Nc q.1 q.2 U
theorem NC.moved {u U : State} (h : u.vm.Alike U.vm) (hn : NC u) : NC U := fun q hq => va_Nc.moved h (hn q hq)
abbrev AR (A : Nat → Prop) (r : va_W) : Nat → Prop := fun q => A q ∧ ∀ z ∈ r, z.1 ≠ q
theorem SA.narrow {n : String} {xs : Nat → Int32} {A B : Nat → Prop} {U : State} {H : Heap} (h : SA n xs A U H) (hAB : ∀ q, B q → A q) : SA n xs B U H := by
  obtain ⟨a, h1, h2, h3, h4⟩ := h
  exact ⟨a, h1.narrow hAB, h2, h3, fun z => h4 (hAB _ z)⟩
theorem OUT.narrow {A B : Nat → Prop} {U : State} {H : Heap} (h : OUT A U H) (hAB : ∀ q, B q → A q) : OUT B U H := by
  obtain ⟨h1, h2, h3, h4, h5, h6, h7, h8, h9, h10⟩ := h
  exact ⟨h1.narrow hAB, h2.narrow hAB, h3, h4, h5, h6, h7, h8.narrow hAB, h9.narrow hAB, h10.narrow hAB⟩
def PW (D : va_G) (cI cR cL : ClassId) (A : Nat → Prop) (w : va_W) (U : State) : Prop := PX D cI cR A w U ∧ va_K D vwCl [(cL, .long)] U ∧ NC U
theorem w_blind {D : va_G} {cI cR cL : ClassId} {A : Nat → Prop} {w : va_W} {av : List Value} : FrameBlind (va_Pc av (PW D cI cR cL A w)) := fun a U g mk h => ⟨h.1, (x_blind a U g mk ⟨h.1, h.2.1⟩).2, va_K.moved (u := U) (U := U.calling g mk a) (Vm.Alike.refl U.vm) h.2.2.1, NC.moved (u := U) (U := U.calling g mk a) (Vm.Alike.refl U.vm) h.2.2.2⟩
theorem met_of_vx {l : Launch} {y : MethodName} {ws : List Cond} {rm : Room} {Pc : Array Value → State → Prop} {Qc : Array Value → State → Outcome → State → Prop} {mc ms : Nat} {free : Addr → Prop} (h : vx_Met l y ws rm Pc Qc (fun _ _ _ => False) mc ms free) : Met l y ws rm Pc Qc mc ms free := by
  intro p e ha hc hk s m args below hf hap hP hK
  obtain ⟨k, oc, h1, h2, h3, hQ⟩ := h p e ha hc hk s m args below hf hap hP hK
  exact ⟨k, oc, h1, h2, h3, hQ.elim id (fun ⟨_, _, _, _, _, hx, _⟩ => hx.elim)⟩
section QW
variable {p : Program} {l : Launch} {e : Env} {R : Room} {s : State} {m : MethodId} {args : Array Value} {below : List Frame} {meth : Method} {c : Code} {H : Heap} {locs : List Loc} {cells slots : Nat} {Q : State → Prop}
variable {cc : ByteArray} {pc mc ms : Nat} {ls : Array Slot} {rest st0 st1 : List Value} {D : va_G} {cI cR cL : ClassId} {A : Nat → Prop} {a : Nat} {w w' r : va_W}
theorem WH.swap {a b : va_W} (hw : WH D cI cR A (a ++ b) s H locs) : WH D cI cR A (b ++ a) s H locs := by
  obtain ⟨hP, hK, hD, hS, hN⟩ := hw
  obtain ⟨Pa, Pb⟩ := vP_app.mp hP
  obtain ⟨Da, Db, ap⟩ := vD_app hD
  exact ⟨vP_app.mpr ⟨Pb, Pa⟩, hK, vD_mk Db Da (fun q hq r hr e => ap r hr q hq e.symm), hS, hN⟩
theorem WH.to (e : w = w') (hw : WH D cI cR A w s H locs) : WH D cI cR A w' s H locs := e ▸ hw
theorem f_sub (hw : WH D cI cR A (w ++ r) s H locs) : va_P D vwCl w H ∧ va_D (AR A r) w := by
  obtain ⟨hP, hK, hD, hS, hN⟩ := hw
  obtain ⟨Dw, Dr, ap⟩ := vD_app hD
  exact ⟨(vP_app.mp hP).1, ⟨Dw.1, fun k q hk => ⟨Dw.2 k q hk, fun z hz e => ap q (List.mem_of_getElem? hk) z hz e.symm⟩⟩⟩
theorem f_WB {U : State} (hw : WH D cI cR A (w ++ r) s H locs) (hU : U.heap = H) (hW : s.WarmedH U.vm) : WB D cI cR (AR A r) w U :=
  ⟨by rw [hU]; exact (f_sub hw).1, va_K.moved hW.alike hw.2.1, (f_sub hw).2, hw.2.2.2.2.warm hW⟩
theorem f_PX {U : State} (hw : WH D cI cR A (w ++ r) s H locs) (hO : OUT A s s.heap) (hA : ∀ q : Nat, s.heap.size ≤ q → A q) (hU : U.heap = H) (hW : s.WarmedH U.vm) : PX D cI cR (AR A r) w U :=
  ⟨f_WB hw hU hW, (hO.go hw.2.2.2.1 hU hW).narrow (fun q h => h.1), fun q hq => ⟨hA q (Nat.le_trans hw.2.2.2.1.1 (by rw [← hU]; exact hq)), fun z hz e => by
    obtain ⟨i, hi⟩ := List.getElem?_of_mem hz
    have h1 := ((vP_app.mp hw.1).2 i z hi).lt
    rw [hU] at hq
    omega⟩⟩
/-- behind such a call: the rest is as it was -/
theorem f_keep {H1 : Heap} {L : List Loc} {wn : va_W} (hw : WH D cI cR A (w ++ r) s H locs) (hP' : va_P D vwCl wn H1) (hD' : va_D (AR A r) wn) (hz : H.size ≤ H1.size) (hk : ∀ q : Nat, q < H.size → ¬ AR A r q → H1[q]? = H[q]?) (hL : ∀ q ∈ L, AR A r q.base) : WH D cI cR A (wn ++ r) s H1 (locs ++ L) := by
  obtain ⟨hP, hK, hD, hS, hN⟩ := hw
  obtain ⟨Pw, Pr⟩ := vP_app.mp hP
  obtain ⟨Dw, Dr, ap⟩ := vD_app hD
  refine ⟨vP_app.mpr ⟨hP', Pr.kept (fun k q hq => hk q.1 (Pr k q hq).lt (fun h => h.2 q (List.mem_of_getElem? hq) rfl))⟩, hK, vD_mk (hD'.weaken (fun _ _ _ h => h.1)) Dr (fun q hq z hz e => ?_), ⟨Nat.le_trans hS.1 hz, fun q h1 h2 => (hk q (Nat.lt_of_lt_of_le h1 hS.1) (fun h => h2 h.1)).trans (hS.2.1 q h1 h2), fun q hq => ?_⟩, hN⟩
  · obtain ⟨i, hi⟩ := List.getElem?_of_mem hq
    exact (hD'.2 i q hi).2 z hz e.symm
  · rcases List.mem_append.mp hq with h | h
    · exact hS.2.2 q h
    · exact (hL q h).1
theorem w_run {v : Option Value} {wn : va_W} {av : Array Value} (hr : va_Run p l e R s m args below meth c H locs cells slots mc ms (F0 m pc ls st0) rest (QV v D (AR A r) wn av) (AR A r)) (hw : WH D cI cR A (w ++ r) s H locs) (h1 : v.toList ++ rest = st1)
    (kk : ∀ (H1 : Heap) (locs1 : List Loc), WH D cI cR A (wn ++ r) s H1 locs1 → W p l e R s m args below meth c H1 locs1 (cells + mc) (slots + ms) Q (F0 m (pc + 3) ls st1)) : W p l e R s m args below meth c H locs cells slots Q (F0 m pc ls st0) := by
  subst h1
  intro T hT X
  obtain ⟨v', st₀, t, T', L, h0, X', hL, e1, e2, ⟨hv, hP', hD', hz, hk⟩, st⟩ := hr T hT X
  cases hv
  rw [h0] at hz hk
  obtain ⟨t2, a1, b1⟩ := kk T'.heap (locs ++ L) (f_keep hw (by rw [e1]; exact hP') hD' (by rw [e1]; exact hz) (fun q g1 g2 => by rw [e1]; exact hk q g1 g2) hL) T' rfl X'
  exact ⟨t2, st t2 a1, b1⟩
theorem w_runX {ρ : Type} {res : Nat ⊕ ρ} {vf : ρ → Option Value} {wf : ρ → va_W} {av : Array Value} (hr : vx_Run p l e R s m args below meth c H locs cells slots mc ms (F0 m pc ls st0) rest (QX res vf wf D (AR A r) av) (XX res w D (AR A r)) (AR A r)) (hw : WH D cI cR A (w ++ r) s H locs)
    (k2 : ∀ k : Nat, res = .inl k → ∀ (H1 : Heap) (locs1 : List Loc) (q : Addr) (ce : Cell), WH D cI cR A (w ++ r) s H1 locs1 → H1[q]? = some ce → ce.vm = .none → s.vm.findClass (exN k) = some ce.cls → vx_W p l e R s m args below meth c H1 locs1 (cells + mc) (slots + ms) Q (F0 m pc ls rest) q)
    (k1 : ∀ u : ρ, res = .inr u → ∀ (H1 : Heap) (locs1 : List Loc), WH D cI cR A (wf u ++ r) s H1 locs1 → W p l e R s m args below meth c H1 locs1 (cells + mc) (slots + ms) Q (F0 m (pc + 3) ls ((vf u).toList ++ rest))) : W p l e R s m args below meth c H locs cells slots Q (F0 m pc ls st0) := by
  intro T hT X
  rcases hr T hT X with ⟨v, st₀, t, T', L, h0, X', hL, e1, e2, ⟨u, hu, hv, hP', hD', hz, hk⟩, st⟩ | ⟨q, st₀, t, T', L, E, ce, h0, X', hL, e1, e2, ⟨k, hk9, hE, hP', hD', hz, hk⟩, hce, hcv, hcl, st⟩
  · cases hv
    rw [h0] at hz hk
    obtain ⟨t2, a1, b1⟩ := k1 u hu T'.heap (locs ++ L) (f_keep hw (by rw [e1]; exact hP') hD' (by rw [e1]; exact hz) (fun q g1 g2 => by rw [e1]; exact hk q g1 g2) hL) T' rfl X'
    exact ⟨t2, st t2 a1, b1⟩
  · rw [h0] at hz hk
    subst hE
    obtain ⟨t2, a1, b1⟩ := k2 k hk9 T'.heap (locs ++ L) q ce (f_keep hw (by rw [e1]; exact hP') hD' (by rw [e1]; exact hz) (fun q g1 g2 => by rw [e1]; exact hk q g1 g2) hL) (by rw [e1]; exact hce) hcv hcl T' rfl X'
    exact ⟨t2, st.trans a1, b1⟩
end QW
/-- out[0] -/
abbrev oc (cL : ClassId) (oa : Nat) (g : Nat → Int64) : va_W := [(oa, .inl (cL, 1, .inr (.inl g)))]
abbrev ocu (g : Nat → Int64) (x : Int64) : Nat → Int64 := vp_updL g (0 : Int32).toNatClampNeg x
def kW (k1 : Nat) (k : Nat) : Int32 := if k = k1 then 1 else 2
def resK {ρ : Type} (k1 : Nat) (res : Nat ⊕ ρ) : Int32 := match res with
  | .inl k => kW k1 k
  | .inr _ => 0
theorem oc_up {g : Nat → Int64} {x : Int64} : ocu g x (0 : Int32).toNatClampNeg = x := by simp [ocu, vp_updL]
