/-! parts of a world, put beside one another -/
theorem vP_app {D : va_G} {cl : List vw_C} {a b : va_W} {H : Heap} : va_P D cl (a ++ b) H ↔ va_P D cl a H ∧ va_P D cl b H := by
  refine ⟨fun h => ⟨fun k q hk => ?_, fun k q hk => ?_⟩, fun h => va_P.app h.1 h.2⟩
  · exact h k q (by rw [List.getElem?_append_left (List.getElem?_eq_some_iff.mp hk).1]; exact hk)
  · exact h (a.length + k) q (by rw [List.getElem?_append_right (by omega), Nat.add_sub_cancel_left]; exact hk)
theorem vD_app {A : Nat → Prop} {a b : va_W} (h : va_D A (a ++ b)) : va_D A a ∧ va_D A b ∧ ∀ q ∈ a, ∀ r ∈ b, q.1 ≠ r.1 := by
  have la : ∀ (k : Nat) (q : Nat × va_E), a[k]? = some q → (a ++ b)[k]? = some q ∧ k < a.length := fun k q hk => by
    have hl := (List.getElem?_eq_some_iff.mp hk).1
    exact ⟨by rw [List.getElem?_append_left hl]; exact hk, hl⟩
  have lb : ∀ (k : Nat) (q : Nat × va_E), b[k]? = some q → (a ++ b)[a.length + k]? = some q := fun k q hk => by
    rw [List.getElem?_append_right (by omega), Nat.add_sub_cancel_left]; exact hk
  refine ⟨⟨fun i j p q hi hj e => h.1 i j p q (la i p hi).1 (la j q hj).1 e, fun k q hk => h.2 k q (la k q hk).1⟩, ⟨fun i j p q hi hj e => ?_, fun k q hk => h.2 _ q (lb k q hk)⟩, fun q hq r hr e => ?_⟩
  · have := h.1 _ _ p q (lb i p hi) (lb j q hj) e
    omega
  · obtain ⟨i, hi⟩ := List.getElem?_of_mem hq
    obtain ⟨j, hj⟩ := List.getElem?_of_mem hr
    have h1 := la i q hi
    have := h.1 _ _ q r h1.1 (lb j r hj) e
    omega
theorem vD_mk {A : Nat → Prop} {a b : va_W} (ha : va_D A a) (hb : va_D A b) (hx : ∀ q ∈ a, ∀ r ∈ b, q.1 ≠ r.1) : va_D A (a ++ b) := va_D.app ha hb (fun i j p q hp hq => hx p (List.mem_of_getElem? hp) q (List.mem_of_getElem? hq))
theorem vD_adr {A : Nat → Prop} {a b : va_W} (h : va_D A a) (e : b.map Prod.fst = a.map Prod.fst) : va_D A b := by
  have key : ∀ (k : Nat) (q : Nat × va_E), b[k]? = some q → ∃ q0, a[k]? = some q0 ∧ q0.1 = q.1 := fun k q hk => by
    have h1 : (a.map Prod.fst)[k]? = some q.1 := by rw [← e, List.getElem?_map, hk]; rfl
    rw [List.getElem?_map] at h1
    cases ha : a[k]? with
    | none => rw [ha] at h1; cases h1
    | some q0 => rw [ha] at h1; exact ⟨q0, rfl, Option.some.inj h1⟩
  refine ⟨fun i j p q hi hj e2 => ?_, fun k q hk => ?_⟩
  · obtain ⟨p0, h1, h2⟩ := key i p hi
    obtain ⟨q0, h3, h4⟩ := key j q hj
    exact h.1 i j p0 q0 h1 h3 (h2.trans (e2.trans h4.symm))
  · obtain ⟨q0, h1, h2⟩ := key k q hk
    rw [← h2]; exact h.2 k q0 h1
theorem ap_adr {a b c : va_W} (h : ∀ q ∈ a, ∀ r ∈ c, q.1 ≠ r.1) (e : b.map Prod.fst = a.map Prod.fst) : ∀ q ∈ b, ∀ r ∈ c, q.1 ≠ r.1 := by
  intro q hq r hr
  have h1 : q.1 ∈ a.map Prod.fst := by rw [← e]; exact List.mem_map.mpr ⟨q, hq, rfl⟩
  obtain ⟨q0, h2, h3⟩ := List.mem_map.mp h1
  rw [← h3]; exact h q0 h2 r hr
theorem vP_keep {D : va_G} {cl : List vw_C} {x wc : va_W} {H H1 : Heap} (hP : va_P D cl x H) (hap : ∀ q ∈ x, ∀ r ∈ wc, q.1 ≠ r.1) (hk : ∀ q : Nat, q < H.size → ¬ (∃ r ∈ wc, r.1 = q) → H1[q]? = H[q]?) : va_P D cl x H1 :=
  hP.kept (fun k q hq => hk q.1 (hP k q hq).lt (fun ⟨r, hr, e⟩ => hap q (List.mem_of_getElem? hq) r hr e.symm))
theorem cell_eqv {cI : ClassId} {n : Nat} {f g : Nat → Int32} (h : ∀ j, j < n → f j = g j) : vp_cell cI (n, .inl f) = vp_cell cI (n, .inl g) := by
  rw [vp_cell_i, vp_cell_i]
  unfold arrV
  congr 1
  congr 1
  funext j
  exact congrArg Value.int (h j.val j.isLt)
/-- the same where a carnival's cells look -/
def eqvK (K K2 : RK) : Prop := (∀ r, r < 8 → ∀ j, j < 10 → K r j = K2 r j) ∧ (∀ j, j < 30 → K 8 j = K2 8 j) ∧ (∀ j, j < 3 → K 9 j = K2 9 j) ∧ (∀ j, j < 6 → K 10 j = K2 10 j) ∧ (∀ j, j < 9 → K 11 j = K2 11 j) ∧ K 12 0 = K2 12 0
theorem kws_eqv {D : va_G} {cl : List vw_C} {cI : ClassId} {ad : Nat → Nat} {od : Nat} {K K2 : RK} {H : Heap} (h : eqvK K K2) (hP : va_P D cl (kws cI ad od K) H) : va_P D cl (kws cI ad od K2) H := by
  obtain ⟨h1, h8, h9, h10, h11, h12⟩ := h
  have row : ∀ (a n : Nat) (f g : Nat → Int32), (∀ j, j < n → f j = g j) → va_at D cl (a, .inl (cI, n, .inl f)) H → va_at D cl (a, .inl (cI, n, .inl g)) H := fun a n f g e h0 => by
    show H[a]? = some _
    rw [← cell_eqv e]; exact h0
  intro k q hk
  match k, hk with
  | 0, hk =>
    cases hk
    have h0 := hP 0 _ rfl
    rw [h11 0 (by decide), h11 1 (by decide), h11 2 (by decide), h11 3 (by decide), h11 4 (by decide), h11 5 (by decide), h11 6 (by decide), h11 7 (by decide), h11 8 (by decide)] at h0
    exact h0
  | 1, hk =>
    cases hk
    have h0 := hP 1 _ rfl
    rw [h12] at h0
    exact h0
  | 2, hk => cases hk; exact row _ _ _ _ (h1 0 (by decide)) (hP 2 _ rfl)
  | 3, hk => cases hk; exact row _ _ _ _ (h1 1 (by decide)) (hP 3 _ rfl)
  | 4, hk => cases hk; exact row _ _ _ _ (h1 2 (by decide)) (hP 4 _ rfl)
  | 5, hk => cases hk; exact row _ _ _ _ (h1 3 (by decide)) (hP 5 _ rfl)
  | 6, hk => cases hk; exact row _ _ _ _ (h1 4 (by decide)) (hP 6 _ rfl)
  | 7, hk => cases hk; exact row _ _ _ _ (h1 5 (by decide)) (hP 7 _ rfl)
  | 8, hk => cases hk; exact row _ _ _ _ (h1 6 (by decide)) (hP 8 _ rfl)
  | 9, hk => cases hk; exact row _ _ _ _ (h1 7 (by decide)) (hP 9 _ rfl)
  | 10, hk => cases hk; exact hP 10 _ rfl
  | 11, hk => cases hk; exact row _ _ _ _ h8 (hP 11 _ rfl)
  | 12, hk => cases hk; exact row _ _ _ _ h9 (hP 12 _ rfl)
  | 13, hk => cases hk; exact row _ _ _ _ h10 (hP 13 _ rfl)
  | k + 14, hk => cases hk
theorem copy_some (K KS : RK) : ∃ K', f_X0_copyState K KS = some K' ∧ eqvK K' KS := by
  refine ⟨_, rfl, ?_, ?_, ?_, ?_, ?_, ?_⟩
  · intro r hr j hj
    rcases (show r = 0 ∨ r = 1 ∨ r = 2 ∨ r = 3 ∨ r = 4 ∨ r = 5 ∨ r = 6 ∨ r = 7 by omega) with rfl | rfl | rfl | rfl | rfl | rfl | rfl | rfl <;> simp [upR, upS, upd, va_cpy, hj]
  · intro j hj
    simp [upR, upS, upd, va_cpy, hj]
  · intro j hj
    simp [upR, upS, upd, va_cpy, hj]
  · intro j hj
    simp [upR, upS, upd, va_cpy, hj]
  · intro j hj
    rcases (show j = 0 ∨ j = 1 ∨ j = 2 ∨ j = 3 ∨ j = 4 ∨ j = 5 ∨ j = 6 ∨ j = 7 ∨ j = 8 by omega) with rfl | rfl | rfl | rfl | rfl | rfl | rfl | rfl | rfl <;> simp [upR, upS, upd]
  · simp [upR, upS, upd]
/-- the copying, within the whole: the read one and the written one change no other cell -/
abbrev AC (wc : va_W) : Nat → Prop := fun q => ∃ r ∈ wc, r.1 = q
section HF
variable {p : Program} {l : Launch} {e : Env} {R : Room} {s : State} {m : MethodId} {args : Array Value} {below : List Frame} {meth : Method} {c : Code} {H : Heap} {locs : List Loc} {cells slots : Nat} {Q : State → Prop}
variable {cc : ByteArray} {pc : Nat} {ls : Array Slot} {rest st0 st1 : List Value} {D : va_G} {cI cR : ClassId} {A : Nat → Prop} {w w' : va_W}
theorem q_runF {v : Option Value} {wc wc' : va_W} {av : Array Value} (hr : va_Run p l e R s m args below meth c H locs cells slots 0 0 (F0 m pc ls st0) rest (QV v D (AC wc) wc' av) (AC wc)) (hS : va_S A s.heap H locs) (hAc : ∀ q, AC wc q → A q) (h1 : v.toList ++ rest = st1)
    (kk : ∀ (H1 : Heap) (locs1 : List Loc), va_P D vwCl wc' H1 → va_S A s.heap H1 locs1 → (∀ q : Nat, q < H.size → ¬ AC wc q → H1[q]? = H[q]?) → W p l e R s m args below meth c H1 locs1 cells slots Q (F0 m (pc + 3) ls st1)) : W p l e R s m args below meth c H locs cells slots Q (F0 m pc ls st0) := by
  subst h1
  intro T hT X
  obtain ⟨v', st₀, t, T', L, h0, X', hL, e1, e2, ⟨hv, hP', -, hz, hk⟩, st⟩ := hr T hT X
  cases hv
  rw [h0] at hz hk
  obtain ⟨t2, a1, b1⟩ := kk T'.heap (locs ++ L) (by rw [e1]; exact hP') ⟨Nat.le_trans hS.1 (by rw [e1]; exact hz), fun q h1 h2 => by rw [e1, hk q (Nat.lt_of_lt_of_le h1 hS.1) (fun z => h2 (hAc q z))]; exact hS.2.1 q h1 h2, fun q hq => by
      rcases List.mem_append.mp hq with h | h
      · exact hS.2.2 q h
      · exact hAc _ (hL q h)⟩ (fun q h1 h2 => by rw [e1]; exact hk q h1 h2) T' rfl X'
  exact ⟨t2, st t2 a1, b1⟩
theorem kws_adr {ad : Nat → Nat} {od : Nat} {K K2 : RK} : (kws cI ad od K2).map Prod.fst = (kws cI ad od K).map Prod.fst := rfl
theorem q_copyDS {ad : Nat → Nat} {od os nL index : Nat} {K KS : RK} {x0 x1 x2 : va_W} {Ts : List Cond} {own host : String} (S : CallFix p m c cc nL s args Ts own)
    (cw : va_CN R s args own index yX0_copyState host cX0_copyState 2 none wsX0_copyState ({ frames := 3, cells := 0, slots := 0, locals := 62 }) 0 0 1 ∧ (Cond.instanceMethod yX0_copyState).before args s = true ∧ (Cond.selects RX0 yX0_copyState yX0_copyState).before args s = true)
    (e0 : w = x0 ++ (kws cI ad od K ++ (x1 ++ (kws cI ad os KS ++ x2)))) (e1 : w' = x0 ++ (kws cI ad od KS ++ (x1 ++ (kws cI ad os KS ++ x2))))
    (hw : WH D cI cR A w s H locs) (hsize : ls.size = nL) (hst : st0 = [.ref (ad os), .ref (ad od)] ++ rest) (hrm : (rest.map fun v => v.category).sum ≤ 8) (hdg : decode cc pc = .ok (.invokevirtual index, 3)) (hcs : cells + 0 ≤ R.cells ∧ slots + 0 ≤ R.slots)
    (kk : ∀ (H1 : Heap) (locs1 : List Loc), WH D cI cR A w' s H1 locs1 → W p l e R s m args below meth c H1 locs1 cells slots Q (F0 m (pc + 3) ls rest)) : W p l e R s m args below meth c H locs cells slots Q (F0 m pc ls st0) := by
  subst e0 e1
  obtain ⟨hP, hK, hD, hS, hN⟩ := hw
  obtain ⟨K', hK', hq⟩ := copy_some K KS
  obtain ⟨P0, hP1⟩ := vP_app.mp hP
  obtain ⟨Pd, hP2⟩ := vP_app.mp hP1
  obtain ⟨P1, hP3⟩ := vP_app.mp hP2
  obtain ⟨Ps, P2⟩ := vP_app.mp hP3
  obtain ⟨D0, hD1, a0⟩ := vD_app hD
  obtain ⟨Dd, hD2, ad'⟩ := vD_app hD1
  obtain ⟨D1, hD3, a1⟩ := vD_app hD2
  obtain ⟨Ds, D2, as'⟩ := vD_app hD3
  have hDc : va_D A (w2s cI ad od os K KS) := vD_mk Dd Ds (fun q hq r hr => ad' q hq r (List.mem_append_right _ (List.mem_append_left _ hr)))
  have hDcc : va_D (AC (w2s cI ad od os K KS)) (w2s cI ad od os K KS) := hDc.weaken (fun k q hk _ => ⟨q, List.mem_of_getElem? hk, rfl⟩)
  have hAc : ∀ q, AC (w2s cI ad od os K KS) q → A q := fun q ⟨r, hr, er⟩ => by
    obtain ⟨i, hi⟩ := List.getElem?_of_mem hr
    rw [← er]; exact hDc.2 i r hi
  have hPc : va_P D vwCl (w2s cI ad od os K KS) H := va_P.app Pd Ps
  refine q_runF (st1 := rest) (va_runVN (C := RX0) (b := ad od) (As := [.ref (ad os)]) (rest := rest) S (c_X0_copyState (cR := cR) (A := AC (w2s cI ad od os K KS)) hK') cw ⟨q_blind, va_recv hK hPc (ci := 0) (q0 := 0) rfl rfl, fun U hU hW => ⟨rfl, by rw [hU]; exact hPc, va_K.moved hW.alike hK, hDcc, hN.warm hW⟩⟩ rfl rfl hsize hst (lv_room hrm) hdg hcs) hS hAc rfl (fun H1 locs1 hP1 hS1 hk => ?_)
  obtain ⟨Pd1, Ps1⟩ := vP_app.mp hP1
  have ap0 : ∀ q ∈ x0, ∀ r ∈ w2s cI ad od os K KS, q.1 ≠ r.1 := fun q hq r hr => a0 q hq r ((List.mem_append.mp hr).elim (fun h => List.mem_append_left _ h) (fun h => List.mem_append_right _ (List.mem_append_right _ (List.mem_append_left _ h))))
  have ap1 : ∀ q ∈ x1, ∀ r ∈ w2s cI ad od os K KS, q.1 ≠ r.1 := fun q hq r hr => (List.mem_append.mp hr).elim (fun h e => ad' r h q (List.mem_append_left _ hq) e.symm) (fun h => a1 q hq r (List.mem_append_left _ h))
  have ap2 : ∀ q ∈ x2, ∀ r ∈ w2s cI ad od os K KS, q.1 ≠ r.1 := fun q hq r hr => (List.mem_append.mp hr).elim (fun h e => ad' r h q (List.mem_append_right _ (List.mem_append_right _ hq)) e.symm) (fun h e => as' r h q hq e.symm)
  refine kk H1 locs1 ⟨vP_app.mpr ⟨vP_keep P0 ap0 hk, vP_app.mpr ⟨kws_eqv hq Pd1, vP_app.mpr ⟨vP_keep P1 ap1 hk, vP_app.mpr ⟨Ps1, vP_keep P2 ap2 hk⟩⟩⟩⟩, hK, ?_, hS1, hN⟩
  refine vD_mk D0 (vD_mk (vD_adr Dd kws_adr) hD2 (ap_adr ad' kws_adr)) (fun q hq r hr => ?_)
  rcases List.mem_append.mp hr with h | h
  · exact fun e => ap_adr (fun q hq r hr e => a0 r hr q (List.mem_append_left _ hq) e.symm) kws_adr r h q hq e.symm
  · exact a0 q hq r (List.mem_append_right _ h)
theorem q_copySD {ad : Nat → Nat} {od os nL index : Nat} {K KS : RK} {x0 x1 x2 : va_W} {Ts : List Cond} {own host : String} (S : CallFix p m c cc nL s args Ts own)
    (cw : va_CN R s args own index yX0_copyState host cX0_copyState 2 none wsX0_copyState ({ frames := 3, cells := 0, slots := 0, locals := 62 }) 0 0 1 ∧ (Cond.instanceMethod yX0_copyState).before args s = true ∧ (Cond.selects RX0 yX0_copyState yX0_copyState).before args s = true)
    (e0 : w = x0 ++ (kws cI ad os KS ++ (x1 ++ (kws cI ad od K ++ x2)))) (e1 : w' = x0 ++ (kws cI ad os KS ++ (x1 ++ (kws cI ad od KS ++ x2))))
    (hw : WH D cI cR A w s H locs) (hsize : ls.size = nL) (hst : st0 = [.ref (ad os), .ref (ad od)] ++ rest) (hrm : (rest.map fun v => v.category).sum ≤ 8) (hdg : decode cc pc = .ok (.invokevirtual index, 3)) (hcs : cells + 0 ≤ R.cells ∧ slots + 0 ≤ R.slots)
    (kk : ∀ (H1 : Heap) (locs1 : List Loc), WH D cI cR A w' s H1 locs1 → W p l e R s m args below meth c H1 locs1 cells slots Q (F0 m (pc + 3) ls rest)) : W p l e R s m args below meth c H locs cells slots Q (F0 m pc ls st0) := by
  subst e0 e1
  obtain ⟨hP, hK, hD, hS, hN⟩ := hw
  obtain ⟨K', hK', hq⟩ := copy_some K KS
  obtain ⟨P0, hP1⟩ := vP_app.mp hP
  obtain ⟨Ps, hP2⟩ := vP_app.mp hP1
  obtain ⟨P1, hP3⟩ := vP_app.mp hP2
  obtain ⟨Pd, P2⟩ := vP_app.mp hP3
  obtain ⟨D0, hD1, a0⟩ := vD_app hD
  obtain ⟨Ds, hD2, as'⟩ := vD_app hD1
  obtain ⟨D1, hD3, a1⟩ := vD_app hD2
  obtain ⟨Dd, D2, ad'⟩ := vD_app hD3
  have hDc : va_D A (w2s cI ad od os K KS) := vD_mk Dd Ds (fun q hq r hr e => as' r hr q (List.mem_append_right _ (List.mem_append_left _ hq)) e.symm)
  have hDcc : va_D (AC (w2s cI ad od os K KS)) (w2s cI ad od os K KS) := hDc.weaken (fun k q hk _ => ⟨q, List.mem_of_getElem? hk, rfl⟩)
  have hAc : ∀ q, AC (w2s cI ad od os K KS) q → A q := fun q ⟨r, hr, er⟩ => by
    obtain ⟨i, hi⟩ := List.getElem?_of_mem hr
    rw [← er]; exact hDc.2 i r hi
  have hPc : va_P D vwCl (w2s cI ad od os K KS) H := va_P.app Pd Ps
  refine q_runF (st1 := rest) (va_runVN (C := RX0) (b := ad od) (As := [.ref (ad os)]) (rest := rest) S (c_X0_copyState (cR := cR) (A := AC (w2s cI ad od os K KS)) hK') cw ⟨q_blind, va_recv hK hPc (ci := 0) (q0 := 0) rfl rfl, fun U hU hW => ⟨rfl, by rw [hU]; exact hPc, va_K.moved hW.alike hK, hDcc, hN.warm hW⟩⟩ rfl rfl hsize hst (lv_room hrm) hdg hcs) hS hAc rfl (fun H1 locs1 hP1 hS1 hk => ?_)
  obtain ⟨Pd1, Ps1⟩ := vP_app.mp hP1
  have ap0 : ∀ q ∈ x0, ∀ r ∈ w2s cI ad od os K KS, q.1 ≠ r.1 := fun q hq r hr => a0 q hq r ((List.mem_append.mp hr).elim (fun h => List.mem_append_right _ (List.mem_append_right _ (List.mem_append_left _ h))) (fun h => List.mem_append_left _ h))
  have ap1 : ∀ q ∈ x1, ∀ r ∈ w2s cI ad od os K KS, q.1 ≠ r.1 := fun q hq r hr => (List.mem_append.mp hr).elim (fun h => a1 q hq r (List.mem_append_left _ h)) (fun h e => as' r h q (List.mem_append_left _ hq) e.symm)
  have ap2 : ∀ q ∈ x2, ∀ r ∈ w2s cI ad od os K KS, q.1 ≠ r.1 := fun q hq r hr => (List.mem_append.mp hr).elim (fun h e => ad' r h q hq e.symm) (fun h e => as' r h q (List.mem_append_right _ (List.mem_append_right _ hq)) e.symm)
  refine kk H1 locs1 ⟨vP_app.mpr ⟨vP_keep P0 ap0 hk, vP_app.mpr ⟨Ps1, vP_app.mpr ⟨vP_keep P1 ap1 hk, vP_app.mpr ⟨kws_eqv hq Pd1, vP_keep P2 ap2 hk⟩⟩⟩⟩, hK, ?_, hS1, hN⟩
  have flip : ∀ {a b : va_W}, (∀ q ∈ a, ∀ r ∈ b, q.1 ≠ r.1) → ∀ q ∈ b, ∀ r ∈ a, q.1 ≠ r.1 := fun h q hq r hr e => h r hr q hq e.symm
  exact vD_adr hD (by simp only [List.map_append]; rfl)
end HF
def upB (O : XO) (b : Nat) (K : RK) : XO := fun q => if q = b then K else O q
def xx0 (ad : Nat → Nat) (O : XO) : va_W := [(ad 0, .inr (5, [.ref (ad 1), .ref (ad 15), .ref (ad 29), .ref (ad 115), .int (O 8 0 0)]))]
def xx2 (cI cR : ClassId) (ad : Nat → Nat) (O : XO) : va_W := [(ad 29, .inr (2, [.ref (ad 30), .int (O 8 0 1), .int (O 8 0 2)])), (ad 30, .inl (cR, 6, .inr (.inr (.inr (.inr (ringf ad))))))] ++ (kws cI ad 31 (O 2) ++ (kws cI ad 45 (O 3) ++ (kws cI ad 59 (O 4) ++ (kws cI ad 73 (O 5) ++ (kws cI ad 87 (O 6) ++ (kws cI ad 101 (O 7) ++ ([(ad 115, .inr (4, [.ref (ad 116), .int (O 8 0 3)])), (ad 116, .inl (cI, 60, .inl (O 8 1)))])))))))
set_option maxRecDepth 20000 in
theorem xw_snap {cI cR : ClassId} {ad : Nat → Nat} {O : XO} {K B : RK} : xws cI cR ad (upB O 1 B) K = xx0 ad O ++ (kws cI ad 1 K ++ ([] ++ (kws cI ad 15 B ++ xx2 cI cR ad O))) := rfl
theorem upB_id {O : XO} {b : Nat} : upB O b (O b) = O := by
  funext q
  unfold upB
  split
  · rename_i h; rw [h]
  · rfl
def xr1_0 (cI cR : ClassId) (ad : Nat → Nat) (O : XO) : va_W := kws cI ad 15 (O 1) ++ ([(ad 29, .inr (2, [.ref (ad 30), .int (O 8 0 1), .int (O 8 0 2)])), (ad 30, .inl (cR, 6, .inr (.inr (.inr (.inr (ringf ad))))))])
def xr2_0 (cI cR : ClassId) (ad : Nat → Nat) (O : XO) : va_W := kws cI ad 45 (O 3) ++ (kws cI ad 59 (O 4) ++ (kws cI ad 73 (O 5) ++ (kws cI ad 87 (O 6) ++ (kws cI ad 101 (O 7) ++ ([(ad 115, .inr (4, [.ref (ad 116), .int (O 8 0 3)])), (ad 116, .inl (cI, 60, .inl (O 8 1)))])))))
set_option maxRecDepth 20000 in
theorem xw_ring0 {cI cR : ClassId} {ad : Nat → Nat} {O : XO} {K B : RK} : xws cI cR ad (upB O 2 B) K = xx0 ad O ++ (kws cI ad 1 K ++ (xr1_0 cI cR ad O ++ (kws cI ad 31 B ++ xr2_0 cI cR ad O))) := rfl
def xr1_1 (cI cR : ClassId) (ad : Nat → Nat) (O : XO) : va_W := kws cI ad 15 (O 1) ++ ([(ad 29, .inr (2, [.ref (ad 30), .int (O 8 0 1), .int (O 8 0 2)])), (ad 30, .inl (cR, 6, .inr (.inr (.inr (.inr (ringf ad))))))] ++ (kws cI ad 31 (O 2)))
def xr2_1 (cI cR : ClassId) (ad : Nat → Nat) (O : XO) : va_W := kws cI ad 59 (O 4) ++ (kws cI ad 73 (O 5) ++ (kws cI ad 87 (O 6) ++ (kws cI ad 101 (O 7) ++ ([(ad 115, .inr (4, [.ref (ad 116), .int (O 8 0 3)])), (ad 116, .inl (cI, 60, .inl (O 8 1)))]))))
set_option maxRecDepth 20000 in
theorem xw_ring1 {cI cR : ClassId} {ad : Nat → Nat} {O : XO} {K B : RK} : xws cI cR ad (upB O 3 B) K = xx0 ad O ++ (kws cI ad 1 K ++ (xr1_1 cI cR ad O ++ (kws cI ad 45 B ++ xr2_1 cI cR ad O))) := rfl
def xr1_2 (cI cR : ClassId) (ad : Nat → Nat) (O : XO) : va_W := kws cI ad 15 (O 1) ++ ([(ad 29, .inr (2, [.ref (ad 30), .int (O 8 0 1), .int (O 8 0 2)])), (ad 30, .inl (cR, 6, .inr (.inr (.inr (.inr (ringf ad))))))] ++ (kws cI ad 31 (O 2) ++ (kws cI ad 45 (O 3))))
def xr2_2 (cI cR : ClassId) (ad : Nat → Nat) (O : XO) : va_W := kws cI ad 73 (O 5) ++ (kws cI ad 87 (O 6) ++ (kws cI ad 101 (O 7) ++ ([(ad 115, .inr (4, [.ref (ad 116), .int (O 8 0 3)])), (ad 116, .inl (cI, 60, .inl (O 8 1)))])))
set_option maxRecDepth 20000 in
theorem xw_ring2 {cI cR : ClassId} {ad : Nat → Nat} {O : XO} {K B : RK} : xws cI cR ad (upB O 4 B) K = xx0 ad O ++ (kws cI ad 1 K ++ (xr1_2 cI cR ad O ++ (kws cI ad 59 B ++ xr2_2 cI cR ad O))) := rfl
def xr1_3 (cI cR : ClassId) (ad : Nat → Nat) (O : XO) : va_W := kws cI ad 15 (O 1) ++ ([(ad 29, .inr (2, [.ref (ad 30), .int (O 8 0 1), .int (O 8 0 2)])), (ad 30, .inl (cR, 6, .inr (.inr (.inr (.inr (ringf ad))))))] ++ (kws cI ad 31 (O 2) ++ (kws cI ad 45 (O 3) ++ (kws cI ad 59 (O 4)))))
def xr2_3 (cI cR : ClassId) (ad : Nat → Nat) (O : XO) : va_W := kws cI ad 87 (O 6) ++ (kws cI ad 101 (O 7) ++ ([(ad 115, .inr (4, [.ref (ad 116), .int (O 8 0 3)])), (ad 116, .inl (cI, 60, .inl (O 8 1)))]))
set_option maxRecDepth 20000 in
theorem xw_ring3 {cI cR : ClassId} {ad : Nat → Nat} {O : XO} {K B : RK} : xws cI cR ad (upB O 5 B) K = xx0 ad O ++ (kws cI ad 1 K ++ (xr1_3 cI cR ad O ++ (kws cI ad 73 B ++ xr2_3 cI cR ad O))) := rfl
def xr1_4 (cI cR : ClassId) (ad : Nat → Nat) (O : XO) : va_W := kws cI ad 15 (O 1) ++ ([(ad 29, .inr (2, [.ref (ad 30), .int (O 8 0 1), .int (O 8 0 2)])), (ad 30, .inl (cR, 6, .inr (.inr (.inr (.inr (ringf ad))))))] ++ (kws cI ad 31 (O 2) ++ (kws cI ad 45 (O 3) ++ (kws cI ad 59 (O 4) ++ (kws cI ad 73 (O 5))))))
def xr2_4 (cI cR : ClassId) (ad : Nat → Nat) (O : XO) : va_W := kws cI ad 101 (O 7) ++ ([(ad 115, .inr (4, [.ref (ad 116), .int (O 8 0 3)])), (ad 116, .inl (cI, 60, .inl (O 8 1)))])
set_option maxRecDepth 20000 in
theorem xw_ring4 {cI cR : ClassId} {ad : Nat → Nat} {O : XO} {K B : RK} : xws cI cR ad (upB O 6 B) K = xx0 ad O ++ (kws cI ad 1 K ++ (xr1_4 cI cR ad O ++ (kws cI ad 87 B ++ xr2_4 cI cR ad O))) := rfl
def xr1_5 (cI cR : ClassId) (ad : Nat → Nat) (O : XO) : va_W := kws cI ad 15 (O 1) ++ ([(ad 29, .inr (2, [.ref (ad 30), .int (O 8 0 1), .int (O 8 0 2)])), (ad 30, .inl (cR, 6, .inr (.inr (.inr (.inr (ringf ad))))))] ++ (kws cI ad 31 (O 2) ++ (kws cI ad 45 (O 3) ++ (kws cI ad 59 (O 4) ++ (kws cI ad 73 (O 5) ++ (kws cI ad 87 (O 6)))))))
def xr2_5 (cI cR : ClassId) (ad : Nat → Nat) (O : XO) : va_W := [(ad 115, .inr (4, [.ref (ad 116), .int (O 8 0 3)])), (ad 116, .inl (cI, 60, .inl (O 8 1)))]
set_option maxRecDepth 20000 in
theorem xw_ring5 {cI cR : ClassId} {ad : Nat → Nat} {O : XO} {K B : RK} : xws cI cR ad (upB O 7 B) K = xx0 ad O ++ (kws cI ad 1 K ++ (xr1_5 cI cR ad O ++ (kws cI ad 101 B ++ xr2_5 cI cR ad O))) := rfl
theorem xw_ring {cI cR : ClassId} {ad : Nat → Nat} {O : XO} {j : Nat} (hj : j < 6) : ∃ x1 x2 : va_W, ∀ K B : RK, xws cI cR ad (upB O (j + 2) B) K = xx0 ad O ++ (kws cI ad 1 K ++ (x1 ++ (kws cI ad (31 + 14 * j) B ++ x2))) := by
  rcases (show j = 0 ∨ j = 1 ∨ j = 2 ∨ j = 3 ∨ j = 4 ∨ j = 5 by omega) with rfl | rfl | rfl | rfl | rfl | rfl
  · exact ⟨_, _, fun K B => xw_ring0⟩
  · exact ⟨_, _, fun K B => xw_ring1⟩
  · exact ⟨_, _, fun K B => xw_ring2⟩
  · exact ⟨_, _, fun K B => xw_ring3⟩
  · exact ⟨_, _, fun K B => xw_ring4⟩
  · exact ⟨_, _, fun K B => xw_ring5⟩
