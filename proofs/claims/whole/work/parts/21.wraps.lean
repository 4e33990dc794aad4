set_option maxHeartbeats 4000000 in
set_option maxRecDepth 100000 in
theorem cw_come {l : Launch} {D : va_G} {cI cR cL : ClassId} {ad : Nat → Nat} {A : Nat → Prop} {O : XO} {K : RK} {oa : Nat} {g : Nat → Int64} {a1 : Int32} {a2 : Int32} {a3 : Int32} {res : Nat ⊕ (Int32 × XO × RK)} (htr : l.stackTraces = false) (hf : f_X5_come O K a1 a2 a3 = some res) (hk : ∀ k, res = .inl k → k = 2 ∨ k = 3) : Met l yL_come wsL_come ({ frames := 8, cells := 4, slots := 24, locals := 138 }) (va_Pc [.ref (ad 0), .int a1, .int a2, .int a3, .ref oa] (PW D cI cR cL A (xws cI cR ad O K ++ oc cL oa g))) (QV (some (.int (resK 2 res))) D A (Sum.elim (fun _ => (xws cI cR ad O K ++ oc cL oa g)) (fun u : (Int32 × XO × RK) => xws cI cR ad u.2.1 u.2.2 ++ oc cL oa (ocu g u.1.toInt64)) res)) 4 24 A := by
  refine met_of_vx (vx_ofWH (cc := cL_come) (maxL := 6) (ret := (some .int)) (by decide) rfl ?_)
  intro p e s m args below meth c s₁ B hml hv
  obtain ⟨-, hKL, hNC⟩ := hv.2
  obtain ⟨rfl, hw, hO, hA⟩ := x_start ⟨hv.1, hv.2.1⟩
  have hx := B.exec
  have hb := B.bytes
  have hr := B.returns
  have hts := atoms_spec (ws := wsL_come) B.pre
  have hown : s.vm.findClass RL = some m.cls := findClass_of_methodNamed B.named
  have hlocks := B.notSynchronized
  have htab : c.exceptionTable.toList = [{ startPc := 0, endPc := 12, handlerPc := 15, catchType := 13 }, { startPc := 0, endPc := 12, handlerPc := 19, catchType := 15 }] := vx_table (x := yL_come) B (hts _ List.mem_cons_self)
  have hCD := hO.2.2.2.2.2.2.1
  have hl := lv_entry ([.ref (ad 0), .int a1, .int a2, .int a3, .ref oa]) (n := 6) (Nat.le_of_ble_eq_true rfl)
  rw [lg_entry_eq]
  generalize (lg_sl ([.ref (ad 0), .int a1, .int a2, .int a3, .ref oa]) ++ List.replicate (6 - (lg_sl ([.ref (ad 0), .int a1, .int a2, .int a3, .ref oa])).length) Slot.unset).toArray = ls at hl ⊢
  have hl : lv_has ls 6 [(0, .ref (ad 0)), (1, .int a1), (2, .int a2), (3, .int a3), (4, .ref oa)] := hl
  refine lv_aload hx hb dL_come_0 (lv_at hl 4 rfl) ?_
  refine lv_iconst (v := 0) hx hb dL_come_2 (by decide) ?_
  refine lv_aload_n hx hb dL_come_3 rfl (lv_at hl 0 rfl) ?_
  refine lv_iload_n hx hb dL_come_4 rfl (lv_at hl 1 rfl) ?_
  refine lv_iload_n hx hb dL_come_5 rfl (lv_at hl 2 rfl) ?_
  refine lv_iload_n hx hb dL_come_6 rfl (lv_at hl 3 rfl) ?_
  refine w_runX (r := oc cL oa g) (vx_runV (b := ad 0) (As := [.int a1, .int a2, .int a3]) (rest := [.int 0, .ref oa]) ⟨hx, hb, hml, hown, hts⟩ (c_X5_come (A := AR A (oc cL oa g)) htr hf) (cwV 3 hts gL_come_X5_come rfl rfl rfl (by decide +kernel) ⟨Nat.le_of_ble_eq_true rfl, Nat.le_of_ble_eq_true rfl⟩) ⟨x_blind, va_recv hw.2.1 (f_sub hw).1 (ci := 5) (q0 := 0) rfl xa_0, fun U hU hW => ⟨rfl, f_PX hw hO hA hU hW⟩⟩ rfl rfl hl.1 rfl (lv_room (Nat.le_of_ble_eq_true rfl)) dL_come_7 ⟨Nat.le_of_ble_eq_true rfl, Nat.le_of_ble_eq_true rfl⟩) hw (fun k hk9 H locs q9 ce hw hq1 hq2 hq3 => ?_) (fun u hu H locs hw => ?_)
  · rcases hk k hk9 with rfl | rfl
    · subst hk9
      refine vx_catch (name := "java/lang/IllegalArgumentException") (E := "java/lang/IllegalArgumentException") hown [] { startPc := 0, endPc := 12, handlerPc := 15, catchType := 13 } [{ startPc := 0, endPc := 12, handlerPc := 19, catchType := 15 }] htab (fun z h => absurd h List.not_mem_nil) (by decide) (by decide) (hts (.classLink RL 13 "java/lang/IllegalArgumentException") (by decide +kernel)) (va_Nw.use rfl (hCD (.castable "java/lang/IllegalArgumentException" "java/lang/IllegalArgumentException") (by decide +kernel))) hq1 hq2 hq3 ?_
      refine W.eq (g2 := F0 m 15 ls [.ref q9]) rfl ?_
      refine lv_astore (lv' := [(5, .ref q9), (0, .ref (ad 0)), (1, .int a1), (2, .int a2), (3, .int a3), (4, .ref oa)]) hx hb dL_come_15 hl (by decide) rfl (fun ls hl => ?_)
      refine lv_iconst (v := 1) hx hb dL_come_17 (by decide) ?_
      exact vx_ret (W.widen (k := 4) (n := 24) (Nat.le_of_ble_eq_true rfl) (Nat.le_of_ble_eq_true rfl) (q_iret hx hb hr hlocks hw dL_come_18))
    · subst hk9
      refine vx_catch (name := "java/lang/IllegalStateException") (E := "java/lang/IllegalStateException") hown [{ startPc := 0, endPc := 12, handlerPc := 15, catchType := 13 }] { startPc := 0, endPc := 12, handlerPc := 19, catchType := 15 } [] htab (fun z h => by cases List.mem_singleton.mp h; exact Or.inr ⟨by decide, "java/lang/IllegalArgumentException", hts (.classLink RL 13 "java/lang/IllegalArgumentException") (by decide +kernel), hNC ("java/lang/IllegalStateException", "java/lang/IllegalArgumentException") (by decide)⟩) (by decide) (by decide) (hts (.classLink RL 15 "java/lang/IllegalStateException") (by decide +kernel)) (va_Nw.use rfl (hCD (.castable "java/lang/IllegalStateException" "java/lang/IllegalStateException") (by decide +kernel))) hq1 hq2 hq3 ?_
      refine W.eq (g2 := F0 m 19 ls [.ref q9]) rfl ?_
      refine lv_astore (lv' := [(5, .ref q9), (0, .ref (ad 0)), (1, .int a1), (2, .int a2), (3, .int a3), (4, .ref oa)]) hx hb dL_come_19 hl (by decide) rfl (fun ls hl => ?_)
      refine lv_iconst (v := 2) hx hb dL_come_21 (by decide) ?_
      exact vx_ret (W.widen (k := 4) (n := 24) (Nat.le_of_ble_eq_true rfl) (Nat.le_of_ble_eq_true rfl) (q_iret hx hb hr hlocks hw dL_come_22))
  · subst hu
    refine W.eq (g2 := F0 m 10 ls [.int u.1, .int 0, .ref oa]) rfl ?_
    refine lv_i2l hx hb dL_come_10 rfl ?_
    refine va_last hx hb hKL hw.1 hw.2.2.1 hw.2.2.2.1 ((xws cI cR ad u.2.1 u.2.2).length + 0) 0 (wg.trans rfl) rfl (inb_in (by decide)) dL_come_11 (fun H locs h1 h2 h3 => ?_)
    rw [wset] at h1 h2
    refine lv_goto (tgt := 23) hx hb dL_come_12 (by decide) ?_
    refine lv_iconst (v := 0) hx hb dL_come_23 (by decide) ?_
    exact vx_ret (W.widen (k := 4) (n := 24) (Nat.le_of_ble_eq_true rfl) (Nat.le_of_ble_eq_true rfl) (q_iret hx hb hr hlocks ⟨h1, hw.2.1, h2, h3, hw.2.2.2.2⟩ dL_come_24))
set_option maxHeartbeats 4000000 in
set_option maxRecDepth 100000 in
theorem cw_leave {l : Launch} {D : va_G} {cI cR cL : ClassId} {ad : Nat → Nat} {A : Nat → Prop} {O : XO} {K : RK} {oa : Nat} {g : Nat → Int64} {a1 : Int32} {res : Nat ⊕ (Int32 × XO × RK)} (htr : l.stackTraces = false) (hf : f_X5_leave O K a1 = some res) (hk : ∀ k, res = .inl k → k = 1 ∨ k = 3) : Met l yL_leave wsL_leave ({ frames := 8, cells := 2, slots := 12, locals := 137 }) (va_Pc [.ref (ad 0), .int a1, .ref oa] (PW D cI cR cL A (xws cI cR ad O K ++ oc cL oa g))) (QV (some (.int (resK 1 res))) D A (Sum.elim (fun _ => (xws cI cR ad O K ++ oc cL oa g)) (fun u : (Int32 × XO × RK) => xws cI cR ad u.2.1 u.2.2 ++ oc cL oa (ocu g u.1.toInt64)) res)) 2 12 A := by
  refine met_of_vx (vx_ofWH (cc := cL_leave) (maxL := 4) (ret := (some .int)) (by decide) rfl ?_)
  intro p e s m args below meth c s₁ B hml hv
  obtain ⟨-, hKL, hNC⟩ := hv.2
  obtain ⟨rfl, hw, hO, hA⟩ := x_start ⟨hv.1, hv.2.1⟩
  have hx := B.exec
  have hb := B.bytes
  have hr := B.returns
  have hts := atoms_spec (ws := wsL_leave) B.pre
  have hown : s.vm.findClass RL = some m.cls := findClass_of_methodNamed B.named
  have hlocks := B.notSynchronized
  have htab : c.exceptionTable.toList = [{ startPc := 0, endPc := 9, handlerPc := 12, catchType := 21 }, { startPc := 0, endPc := 9, handlerPc := 15, catchType := 15 }] := vx_table (x := yL_leave) B (hts _ List.mem_cons_self)
  have hCD := hO.2.2.2.2.2.2.1
  have hl := lv_entry ([.ref (ad 0), .int a1, .ref oa]) (n := 4) (Nat.le_of_ble_eq_true rfl)
  rw [lg_entry_eq]
  generalize (lg_sl ([.ref (ad 0), .int a1, .ref oa]) ++ List.replicate (4 - (lg_sl ([.ref (ad 0), .int a1, .ref oa])).length) Slot.unset).toArray = ls at hl ⊢
  have hl : lv_has ls 4 [(0, .ref (ad 0)), (1, .int a1), (2, .ref oa)] := hl
  refine lv_aload_n hx hb dL_leave_0 rfl (lv_at hl 2 rfl) ?_
  refine lv_iconst (v := 0) hx hb dL_leave_1 (by decide) ?_
  refine lv_aload_n hx hb dL_leave_2 rfl (lv_at hl 0 rfl) ?_
  refine lv_iload_n hx hb dL_leave_3 rfl (lv_at hl 1 rfl) ?_
  refine w_runX (r := oc cL oa g) (vx_runV (b := ad 0) (As := [.int a1]) (rest := [.int 0, .ref oa]) ⟨hx, hb, hml, hown, hts⟩ (c_X5_leave (A := AR A (oc cL oa g)) htr hf) (cwV 1 hts gL_leave_X5_leave rfl rfl rfl (by decide +kernel) ⟨Nat.le_of_ble_eq_true rfl, Nat.le_of_ble_eq_true rfl⟩) ⟨x_blind, va_recv hw.2.1 (f_sub hw).1 (ci := 5) (q0 := 0) rfl xa_0, fun U hU hW => ⟨rfl, f_PX hw hO hA hU hW⟩⟩ rfl rfl hl.1 rfl (lv_room (Nat.le_of_ble_eq_true rfl)) dL_leave_4 ⟨Nat.le_of_ble_eq_true rfl, Nat.le_of_ble_eq_true rfl⟩) hw (fun k hk9 H locs q9 ce hw hq1 hq2 hq3 => ?_) (fun u hu H locs hw => ?_)
  · rcases hk k hk9 with rfl | rfl
    · subst hk9
      refine vx_catch (name := "java/lang/IndexOutOfBoundsException") (E := "java/lang/IndexOutOfBoundsException") hown [] { startPc := 0, endPc := 9, handlerPc := 12, catchType := 21 } [{ startPc := 0, endPc := 9, handlerPc := 15, catchType := 15 }] htab (fun z h => absurd h List.not_mem_nil) (by decide) (by decide) (hts (.classLink RL 21 "java/lang/IndexOutOfBoundsException") (by decide +kernel)) (va_Nw.use rfl (hCD (.castable "java/lang/IndexOutOfBoundsException" "java/lang/IndexOutOfBoundsException") (by decide +kernel))) hq1 hq2 hq3 ?_
      refine W.eq (g2 := F0 m 12 ls [.ref q9]) rfl ?_
      refine lv_astore_n (lv' := [(3, .ref q9), (0, .ref (ad 0)), (1, .int a1), (2, .ref oa)]) hx hb dL_leave_12 rfl hl (by decide) rfl (fun ls hl => ?_)
      refine lv_iconst (v := 1) hx hb dL_leave_13 (by decide) ?_
      exact vx_ret (W.widen (k := 2) (n := 12) (Nat.le_of_ble_eq_true rfl) (Nat.le_of_ble_eq_true rfl) (q_iret hx hb hr hlocks hw dL_leave_14))
    · subst hk9
      refine vx_catch (name := "java/lang/IllegalStateException") (E := "java/lang/IllegalStateException") hown [{ startPc := 0, endPc := 9, handlerPc := 12, catchType := 21 }] { startPc := 0, endPc := 9, handlerPc := 15, catchType := 15 } [] htab (fun z h => by cases List.mem_singleton.mp h; exact Or.inr ⟨by decide, "java/lang/IndexOutOfBoundsException", hts (.classLink RL 21 "java/lang/IndexOutOfBoundsException") (by decide +kernel), hNC ("java/lang/IllegalStateException", "java/lang/IndexOutOfBoundsException") (by decide)⟩) (by decide) (by decide) (hts (.classLink RL 15 "java/lang/IllegalStateException") (by decide +kernel)) (va_Nw.use rfl (hCD (.castable "java/lang/IllegalStateException" "java/lang/IllegalStateException") (by decide +kernel))) hq1 hq2 hq3 ?_
      refine W.eq (g2 := F0 m 15 ls [.ref q9]) rfl ?_
      refine lv_astore_n (lv' := [(3, .ref q9), (0, .ref (ad 0)), (1, .int a1), (2, .ref oa)]) hx hb dL_leave_15 rfl hl (by decide) rfl (fun ls hl => ?_)
      refine lv_iconst (v := 2) hx hb dL_leave_16 (by decide) ?_
      exact vx_ret (W.widen (k := 2) (n := 12) (Nat.le_of_ble_eq_true rfl) (Nat.le_of_ble_eq_true rfl) (q_iret hx hb hr hlocks hw dL_leave_17))
  · subst hu
    refine W.eq (g2 := F0 m 7 ls [.int u.1, .int 0, .ref oa]) rfl ?_
    refine lv_i2l hx hb dL_leave_7 rfl ?_
    refine va_last hx hb hKL hw.1 hw.2.2.1 hw.2.2.2.1 ((xws cI cR ad u.2.1 u.2.2).length + 0) 0 (wg.trans rfl) rfl (inb_in (by decide)) dL_leave_8 (fun H locs h1 h2 h3 => ?_)
    rw [wset] at h1 h2
    refine lv_goto (tgt := 18) hx hb dL_leave_9 (by decide) ?_
    refine lv_iconst (v := 0) hx hb dL_leave_18 (by decide) ?_
    exact vx_ret (W.widen (k := 2) (n := 12) (Nat.le_of_ble_eq_true rfl) (Nat.le_of_ble_eq_true rfl) (q_iret hx hb hr hlocks ⟨h1, hw.2.1, h2, h3, hw.2.2.2.2⟩ dL_leave_19))
set_option maxHeartbeats 4000000 in
set_option maxRecDepth 100000 in
theorem cw_earn {l : Launch} {D : va_G} {cI cR cL : ClassId} {ad : Nat → Nat} {A : Nat → Prop} {O : XO} {K : RK} {oa : Nat} {g : Nat → Int64} {a1 : Int32} {a2 : Int32} {res : Nat ⊕ (Int32 × XO × RK)} (htr : l.stackTraces = false) (hf : f_X5_earn O K a1 a2 = some res) (hk : ∀ k, res = .inl k → k = 1 ∨ k = 2) : Met l yL_earn wsL_earn ({ frames := 8, cells := 2, slots := 12, locals := 138 }) (va_Pc [.ref (ad 0), .int a1, .int a2, .ref oa] (PW D cI cR cL A (xws cI cR ad O K ++ oc cL oa g))) (QV (some (.int (resK 1 res))) D A (Sum.elim (fun _ => (xws cI cR ad O K ++ oc cL oa g)) (fun u : (Int32 × XO × RK) => xws cI cR ad u.2.1 u.2.2 ++ oc cL oa (ocu g u.1.toInt64)) res)) 2 12 A := by
  refine met_of_vx (vx_ofWH (cc := cL_earn) (maxL := 5) (ret := (some .int)) (by decide) rfl ?_)
  intro p e s m args below meth c s₁ B hml hv
  obtain ⟨-, hKL, hNC⟩ := hv.2
  obtain ⟨rfl, hw, hO, hA⟩ := x_start ⟨hv.1, hv.2.1⟩
  have hx := B.exec
  have hb := B.bytes
  have hr := B.returns
  have hts := atoms_spec (ws := wsL_earn) B.pre
  have hown : s.vm.findClass RL = some m.cls := findClass_of_methodNamed B.named
  have hlocks := B.notSynchronized
  have htab : c.exceptionTable.toList = [{ startPc := 0, endPc := 10, handlerPc := 13, catchType := 21 }, { startPc := 0, endPc := 10, handlerPc := 17, catchType := 13 }] := vx_table (x := yL_earn) B (hts _ List.mem_cons_self)
  have hCD := hO.2.2.2.2.2.2.1
  have hl := lv_entry ([.ref (ad 0), .int a1, .int a2, .ref oa]) (n := 5) (Nat.le_of_ble_eq_true rfl)
  rw [lg_entry_eq]
  generalize (lg_sl ([.ref (ad 0), .int a1, .int a2, .ref oa]) ++ List.replicate (5 - (lg_sl ([.ref (ad 0), .int a1, .int a2, .ref oa])).length) Slot.unset).toArray = ls at hl ⊢
  have hl : lv_has ls 5 [(0, .ref (ad 0)), (1, .int a1), (2, .int a2), (3, .ref oa)] := hl
  refine lv_aload_n hx hb dL_earn_0 rfl (lv_at hl 3 rfl) ?_
  refine lv_iconst (v := 0) hx hb dL_earn_1 (by decide) ?_
  refine lv_aload_n hx hb dL_earn_2 rfl (lv_at hl 0 rfl) ?_
  refine lv_iload_n hx hb dL_earn_3 rfl (lv_at hl 1 rfl) ?_
  refine lv_iload_n hx hb dL_earn_4 rfl (lv_at hl 2 rfl) ?_
  refine w_runX (r := oc cL oa g) (vx_runV (b := ad 0) (As := [.int a1, .int a2]) (rest := [.int 0, .ref oa]) ⟨hx, hb, hml, hown, hts⟩ (c_X5_earn (A := AR A (oc cL oa g)) htr hf) (cwV 2 hts gL_earn_X5_earn rfl rfl rfl (by decide +kernel) ⟨Nat.le_of_ble_eq_true rfl, Nat.le_of_ble_eq_true rfl⟩) ⟨x_blind, va_recv hw.2.1 (f_sub hw).1 (ci := 5) (q0 := 0) rfl xa_0, fun U hU hW => ⟨rfl, f_PX hw hO hA hU hW⟩⟩ rfl rfl hl.1 rfl (lv_room (Nat.le_of_ble_eq_true rfl)) dL_earn_5 ⟨Nat.le_of_ble_eq_true rfl, Nat.le_of_ble_eq_true rfl⟩) hw (fun k hk9 H locs q9 ce hw hq1 hq2 hq3 => ?_) (fun u hu H locs hw => ?_)
  · rcases hk k hk9 with rfl | rfl
    · subst hk9
      refine vx_catch (name := "java/lang/IndexOutOfBoundsException") (E := "java/lang/IndexOutOfBoundsException") hown [] { startPc := 0, endPc := 10, handlerPc := 13, catchType := 21 } [{ startPc := 0, endPc := 10, handlerPc := 17, catchType := 13 }] htab (fun z h => absurd h List.not_mem_nil) (by decide) (by decide) (hts (.classLink RL 21 "java/lang/IndexOutOfBoundsException") (by decide +kernel)) (va_Nw.use rfl (hCD (.castable "java/lang/IndexOutOfBoundsException" "java/lang/IndexOutOfBoundsException") (by decide +kernel))) hq1 hq2 hq3 ?_
      refine W.eq (g2 := F0 m 13 ls [.ref q9]) rfl ?_
      refine lv_astore (lv' := [(4, .ref q9), (0, .ref (ad 0)), (1, .int a1), (2, .int a2), (3, .ref oa)]) hx hb dL_earn_13 hl (by decide) rfl (fun ls hl => ?_)
      refine lv_iconst (v := 1) hx hb dL_earn_15 (by decide) ?_
      exact vx_ret (W.widen (k := 2) (n := 12) (Nat.le_of_ble_eq_true rfl) (Nat.le_of_ble_eq_true rfl) (q_iret hx hb hr hlocks hw dL_earn_16))
    · subst hk9
      refine vx_catch (name := "java/lang/IllegalArgumentException") (E := "java/lang/IllegalArgumentException") hown [{ startPc := 0, endPc := 10, handlerPc := 13, catchType := 21 }] { startPc := 0, endPc := 10, handlerPc := 17, catchType := 13 } [] htab (fun z h => by cases List.mem_singleton.mp h; exact Or.inr ⟨by decide, "java/lang/IndexOutOfBoundsException", hts (.classLink RL 21 "java/lang/IndexOutOfBoundsException") (by decide +kernel), hNC ("java/lang/IllegalArgumentException", "java/lang/IndexOutOfBoundsException") (by decide)⟩) (by decide) (by decide) (hts (.classLink RL 13 "java/lang/IllegalArgumentException") (by decide +kernel)) (va_Nw.use rfl (hCD (.castable "java/lang/IllegalArgumentException" "java/lang/IllegalArgumentException") (by decide +kernel))) hq1 hq2 hq3 ?_
      refine W.eq (g2 := F0 m 17 ls [.ref q9]) rfl ?_
      refine lv_astore (lv' := [(4, .ref q9), (0, .ref (ad 0)), (1, .int a1), (2, .int a2), (3, .ref oa)]) hx hb dL_earn_17 hl (by decide) rfl (fun ls hl => ?_)
      refine lv_iconst (v := 2) hx hb dL_earn_19 (by decide) ?_
      exact vx_ret (W.widen (k := 2) (n := 12) (Nat.le_of_ble_eq_true rfl) (Nat.le_of_ble_eq_true rfl) (q_iret hx hb hr hlocks hw dL_earn_20))
  · subst hu
    refine W.eq (g2 := F0 m 8 ls [.int u.1, .int 0, .ref oa]) rfl ?_
    refine lv_i2l hx hb dL_earn_8 rfl ?_
    refine va_last hx hb hKL hw.1 hw.2.2.1 hw.2.2.2.1 ((xws cI cR ad u.2.1 u.2.2).length + 0) 0 (wg.trans rfl) rfl (inb_in (by decide)) dL_earn_9 (fun H locs h1 h2 h3 => ?_)
    rw [wset] at h1 h2
    refine lv_goto (tgt := 21) hx hb dL_earn_10 (by decide) ?_
    refine lv_iconst (v := 0) hx hb dL_earn_21 (by decide) ?_
    exact vx_ret (W.widen (k := 2) (n := 12) (Nat.le_of_ble_eq_true rfl) (Nat.le_of_ble_eq_true rfl) (q_iret hx hb hr hlocks ⟨h1, hw.2.1, h2, h3, hw.2.2.2.2⟩ dL_earn_22))
set_option maxHeartbeats 4000000 in
set_option maxRecDepth 100000 in
theorem cw_lend {l : Launch} {D : va_G} {cI cR cL : ClassId} {ad : Nat → Nat} {A : Nat → Prop} {O : XO} {K : RK} {oa : Nat} {g : Nat → Int64} {a1 : Int32} {a2 : Int32} {res : Nat ⊕ (Int32 × XO × RK)} (htr : l.stackTraces = false) (hf : f_X5_lend O K a1 a2 = some res) (hk : ∀ k, res = .inl k → k = 1 ∨ k = 3) : Met l yL_lend wsL_lend ({ frames := 8, cells := 3, slots := 18, locals := 138 }) (va_Pc [.ref (ad 0), .int a1, .int a2, .ref oa] (PW D cI cR cL A (xws cI cR ad O K ++ oc cL oa g))) (QV (some (.int (resK 1 res))) D A (Sum.elim (fun _ => (xws cI cR ad O K ++ oc cL oa g)) (fun u : (Int32 × XO × RK) => xws cI cR ad u.2.1 u.2.2 ++ oc cL oa (ocu g u.1.toInt64)) res)) 3 18 A := by
  refine met_of_vx (vx_ofWH (cc := cL_lend) (maxL := 5) (ret := (some .int)) (by decide) rfl ?_)
  intro p e s m args below meth c s₁ B hml hv
  obtain ⟨-, hKL, hNC⟩ := hv.2
  obtain ⟨rfl, hw, hO, hA⟩ := x_start ⟨hv.1, hv.2.1⟩
  have hx := B.exec
  have hb := B.bytes
  have hr := B.returns
  have hts := atoms_spec (ws := wsL_lend) B.pre
  have hown : s.vm.findClass RL = some m.cls := findClass_of_methodNamed B.named
  have hlocks := B.notSynchronized
  have htab : c.exceptionTable.toList = [{ startPc := 0, endPc := 10, handlerPc := 13, catchType := 21 }, { startPc := 0, endPc := 10, handlerPc := 17, catchType := 15 }] := vx_table (x := yL_lend) B (hts _ List.mem_cons_self)
  have hCD := hO.2.2.2.2.2.2.1
  have hl := lv_entry ([.ref (ad 0), .int a1, .int a2, .ref oa]) (n := 5) (Nat.le_of_ble_eq_true rfl)
  rw [lg_entry_eq]
  generalize (lg_sl ([.ref (ad 0), .int a1, .int a2, .ref oa]) ++ List.replicate (5 - (lg_sl ([.ref (ad 0), .int a1, .int a2, .ref oa])).length) Slot.unset).toArray = ls at hl ⊢
  have hl : lv_has ls 5 [(0, .ref (ad 0)), (1, .int a1), (2, .int a2), (3, .ref oa)] := hl
  refine lv_aload_n hx hb dL_lend_0 rfl (lv_at hl 3 rfl) ?_
  refine lv_iconst (v := 0) hx hb dL_lend_1 (by decide) ?_
  refine lv_aload_n hx hb dL_lend_2 rfl (lv_at hl 0 rfl) ?_
  refine lv_iload_n hx hb dL_lend_3 rfl (lv_at hl 1 rfl) ?_
  refine lv_iload_n hx hb dL_lend_4 rfl (lv_at hl 2 rfl) ?_
  refine w_runX (r := oc cL oa g) (vx_runV (b := ad 0) (As := [.int a1, .int a2]) (rest := [.int 0, .ref oa]) ⟨hx, hb, hml, hown, hts⟩ (c_X5_lend (A := AR A (oc cL oa g)) htr hf) (cwV 2 hts gL_lend_X5_lend rfl rfl rfl (by decide +kernel) ⟨Nat.le_of_ble_eq_true rfl, Nat.le_of_ble_eq_true rfl⟩) ⟨x_blind, va_recv hw.2.1 (f_sub hw).1 (ci := 5) (q0 := 0) rfl xa_0, fun U hU hW => ⟨rfl, f_PX hw hO hA hU hW⟩⟩ rfl rfl hl.1 rfl (lv_room (Nat.le_of_ble_eq_true rfl)) dL_lend_5 ⟨Nat.le_of_ble_eq_true rfl, Nat.le_of_ble_eq_true rfl⟩) hw (fun k hk9 H locs q9 ce hw hq1 hq2 hq3 => ?_) (fun u hu H locs hw => ?_)
  · rcases hk k hk9 with rfl | rfl
    · subst hk9
      refine vx_catch (name := "java/lang/IndexOutOfBoundsException") (E := "java/lang/IndexOutOfBoundsException") hown [] { startPc := 0, endPc := 10, handlerPc := 13, catchType := 21 } [{ startPc := 0, endPc := 10, handlerPc := 17, catchType := 15 }] htab (fun z h => absurd h List.not_mem_nil) (by decide) (by decide) (hts (.classLink RL 21 "java/lang/IndexOutOfBoundsException") (by decide +kernel)) (va_Nw.use rfl (hCD (.castable "java/lang/IndexOutOfBoundsException" "java/lang/IndexOutOfBoundsException") (by decide +kernel))) hq1 hq2 hq3 ?_
      refine W.eq (g2 := F0 m 13 ls [.ref q9]) rfl ?_
      refine lv_astore (lv' := [(4, .ref q9), (0, .ref (ad 0)), (1, .int a1), (2, .int a2), (3, .ref oa)]) hx hb dL_lend_13 hl (by decide) rfl (fun ls hl => ?_)
      refine lv_iconst (v := 1) hx hb dL_lend_15 (by decide) ?_
      exact vx_ret (W.widen (k := 3) (n := 18) (Nat.le_of_ble_eq_true rfl) (Nat.le_of_ble_eq_true rfl) (q_iret hx hb hr hlocks hw dL_lend_16))
    · subst hk9
      refine vx_catch (name := "java/lang/IllegalStateException") (E := "java/lang/IllegalStateException") hown [{ startPc := 0, endPc := 10, handlerPc := 13, catchType := 21 }] { startPc := 0, endPc := 10, handlerPc := 17, catchType := 15 } [] htab (fun z h => by cases List.mem_singleton.mp h; exact Or.inr ⟨by decide, "java/lang/IndexOutOfBoundsException", hts (.classLink RL 21 "java/lang/IndexOutOfBoundsException") (by decide +kernel), hNC ("java/lang/IllegalStateException", "java/lang/IndexOutOfBoundsException") (by decide)⟩) (by decide) (by decide) (hts (.classLink RL 15 "java/lang/IllegalStateException") (by decide +kernel)) (va_Nw.use rfl (hCD (.castable "java/lang/IllegalStateException" "java/lang/IllegalStateException") (by decide +kernel))) hq1 hq2 hq3 ?_
      refine W.eq (g2 := F0 m 17 ls [.ref q9]) rfl ?_
      refine lv_astore (lv' := [(4, .ref q9), (0, .ref (ad 0)), (1, .int a1), (2, .int a2), (3, .ref oa)]) hx hb dL_lend_17 hl (by decide) rfl (fun ls hl => ?_)
      refine lv_iconst (v := 2) hx hb dL_lend_19 (by decide) ?_
      exact vx_ret (W.widen (k := 3) (n := 18) (Nat.le_of_ble_eq_true rfl) (Nat.le_of_ble_eq_true rfl) (q_iret hx hb hr hlocks hw dL_lend_20))
  · subst hu
    refine W.eq (g2 := F0 m 8 ls [.int u.1, .int 0, .ref oa]) rfl ?_
    refine lv_i2l hx hb dL_lend_8 rfl ?_
    refine va_last hx hb hKL hw.1 hw.2.2.1 hw.2.2.2.1 ((xws cI cR ad u.2.1 u.2.2).length + 0) 0 (wg.trans rfl) rfl (inb_in (by decide)) dL_lend_9 (fun H locs h1 h2 h3 => ?_)
    rw [wset] at h1 h2
    refine lv_goto (tgt := 21) hx hb dL_lend_10 (by decide) ?_
    refine lv_iconst (v := 0) hx hb dL_lend_21 (by decide) ?_
    exact vx_ret (W.widen (k := 3) (n := 18) (Nat.le_of_ble_eq_true rfl) (Nat.le_of_ble_eq_true rfl) (q_iret hx hb hr hlocks ⟨h1, hw.2.1, h2, h3, hw.2.2.2.2⟩ dL_lend_22))
set_option maxHeartbeats 4000000 in
set_option maxRecDepth 100000 in
theorem cw_giveBack {l : Launch} {D : va_G} {cI cR cL : ClassId} {ad : Nat → Nat} {A : Nat → Prop} {O : XO} {K : RK} {oa : Nat} {g : Nat → Int64} {a1 : Int32} {res : Nat ⊕ (Int32 × XO × RK)} (htr : l.stackTraces = false) (hf : f_X5_giveBack O K a1 = some res) (hk : ∀ k, res = .inl k → k = 1 ∨ k = 3) : Met l yL_giveBack wsL_giveBack ({ frames := 8, cells := 2, slots := 12, locals := 137 }) (va_Pc [.ref (ad 0), .int a1, .ref oa] (PW D cI cR cL A (xws cI cR ad O K ++ oc cL oa g))) (QV (some (.int (resK 1 res))) D A (Sum.elim (fun _ => (xws cI cR ad O K ++ oc cL oa g)) (fun u : (Int32 × XO × RK) => xws cI cR ad u.2.1 u.2.2 ++ oc cL oa (ocu g u.1.toInt64)) res)) 2 12 A := by
  refine met_of_vx (vx_ofWH (cc := cL_giveBack) (maxL := 4) (ret := (some .int)) (by decide) rfl ?_)
  intro p e s m args below meth c s₁ B hml hv
  obtain ⟨-, hKL, hNC⟩ := hv.2
  obtain ⟨rfl, hw, hO, hA⟩ := x_start ⟨hv.1, hv.2.1⟩
  have hx := B.exec
  have hb := B.bytes
  have hr := B.returns
  have hts := atoms_spec (ws := wsL_giveBack) B.pre
  have hown : s.vm.findClass RL = some m.cls := findClass_of_methodNamed B.named
  have hlocks := B.notSynchronized
  have htab : c.exceptionTable.toList = [{ startPc := 0, endPc := 9, handlerPc := 12, catchType := 21 }, { startPc := 0, endPc := 9, handlerPc := 15, catchType := 15 }] := vx_table (x := yL_giveBack) B (hts _ List.mem_cons_self)
  have hCD := hO.2.2.2.2.2.2.1
  have hl := lv_entry ([.ref (ad 0), .int a1, .ref oa]) (n := 4) (Nat.le_of_ble_eq_true rfl)
  rw [lg_entry_eq]
  generalize (lg_sl ([.ref (ad 0), .int a1, .ref oa]) ++ List.replicate (4 - (lg_sl ([.ref (ad 0), .int a1, .ref oa])).length) Slot.unset).toArray = ls at hl ⊢
  have hl : lv_has ls 4 [(0, .ref (ad 0)), (1, .int a1), (2, .ref oa)] := hl
  refine lv_aload_n hx hb dL_giveBack_0 rfl (lv_at hl 2 rfl) ?_
  refine lv_iconst (v := 0) hx hb dL_giveBack_1 (by decide) ?_
  refine lv_aload_n hx hb dL_giveBack_2 rfl (lv_at hl 0 rfl) ?_
  refine lv_iload_n hx hb dL_giveBack_3 rfl (lv_at hl 1 rfl) ?_
  refine w_runX (r := oc cL oa g) (vx_runV (b := ad 0) (As := [.int a1]) (rest := [.int 0, .ref oa]) ⟨hx, hb, hml, hown, hts⟩ (c_X5_giveBack (A := AR A (oc cL oa g)) htr hf) (cwV 1 hts gL_giveBack_X5_giveBack rfl rfl rfl (by decide +kernel) ⟨Nat.le_of_ble_eq_true rfl, Nat.le_of_ble_eq_true rfl⟩) ⟨x_blind, va_recv hw.2.1 (f_sub hw).1 (ci := 5) (q0 := 0) rfl xa_0, fun U hU hW => ⟨rfl, f_PX hw hO hA hU hW⟩⟩ rfl rfl hl.1 rfl (lv_room (Nat.le_of_ble_eq_true rfl)) dL_giveBack_4 ⟨Nat.le_of_ble_eq_true rfl, Nat.le_of_ble_eq_true rfl⟩) hw (fun k hk9 H locs q9 ce hw hq1 hq2 hq3 => ?_) (fun u hu H locs hw => ?_)
  · rcases hk k hk9 with rfl | rfl
    · subst hk9
      refine vx_catch (name := "java/lang/IndexOutOfBoundsException") (E := "java/lang/IndexOutOfBoundsException") hown [] { startPc := 0, endPc := 9, handlerPc := 12, catchType := 21 } [{ startPc := 0, endPc := 9, handlerPc := 15, catchType := 15 }] htab (fun z h => absurd h List.not_mem_nil) (by decide) (by decide) (hts (.classLink RL 21 "java/lang/IndexOutOfBoundsException") (by decide +kernel)) (va_Nw.use rfl (hCD (.castable "java/lang/IndexOutOfBoundsException" "java/lang/IndexOutOfBoundsException") (by decide +kernel))) hq1 hq2 hq3 ?_
      refine W.eq (g2 := F0 m 12 ls [.ref q9]) rfl ?_
      refine lv_astore_n (lv' := [(3, .ref q9), (0, .ref (ad 0)), (1, .int a1), (2, .ref oa)]) hx hb dL_giveBack_12 rfl hl (by decide) rfl (fun ls hl => ?_)
      refine lv_iconst (v := 1) hx hb dL_giveBack_13 (by decide) ?_
      exact vx_ret (W.widen (k := 2) (n := 12) (Nat.le_of_ble_eq_true rfl) (Nat.le_of_ble_eq_true rfl) (q_iret hx hb hr hlocks hw dL_giveBack_14))
    · subst hk9
      refine vx_catch (name := "java/lang/IllegalStateException") (E := "java/lang/IllegalStateException") hown [{ startPc := 0, endPc := 9, handlerPc := 12, catchType := 21 }] { startPc := 0, endPc := 9, handlerPc := 15, catchType := 15 } [] htab (fun z h => by cases List.mem_singleton.mp h; exact Or.inr ⟨by decide, "java/lang/IndexOutOfBoundsException", hts (.classLink RL 21 "java/lang/IndexOutOfBoundsException") (by decide +kernel), hNC ("java/lang/IllegalStateException", "java/lang/IndexOutOfBoundsException") (by decide)⟩) (by decide) (by decide) (hts (.classLink RL 15 "java/lang/IllegalStateException") (by decide +kernel)) (va_Nw.use rfl (hCD (.castable "java/lang/IllegalStateException" "java/lang/IllegalStateException") (by decide +kernel))) hq1 hq2 hq3 ?_
      refine W.eq (g2 := F0 m 15 ls [.ref q9]) rfl ?_
      refine lv_astore_n (lv' := [(3, .ref q9), (0, .ref (ad 0)), (1, .int a1), (2, .ref oa)]) hx hb dL_giveBack_15 rfl hl (by decide) rfl (fun ls hl => ?_)
      refine lv_iconst (v := 2) hx hb dL_giveBack_16 (by decide) ?_
      exact vx_ret (W.widen (k := 2) (n := 12) (Nat.le_of_ble_eq_true rfl) (Nat.le_of_ble_eq_true rfl) (q_iret hx hb hr hlocks hw dL_giveBack_17))
  · subst hu
    refine W.eq (g2 := F0 m 7 ls [.int u.1, .int 0, .ref oa]) rfl ?_
    refine lv_i2l hx hb dL_giveBack_7 rfl ?_
    refine va_last hx hb hKL hw.1 hw.2.2.1 hw.2.2.2.1 ((xws cI cR ad u.2.1 u.2.2).length + 0) 0 (wg.trans rfl) rfl (inb_in (by decide)) dL_giveBack_8 (fun H locs h1 h2 h3 => ?_)
    rw [wset] at h1 h2
    refine lv_goto (tgt := 18) hx hb dL_giveBack_9 (by decide) ?_
    refine lv_iconst (v := 0) hx hb dL_giveBack_18 (by decide) ?_
    exact vx_ret (W.widen (k := 2) (n := 12) (Nat.le_of_ble_eq_true rfl) (Nat.le_of_ble_eq_true rfl) (q_iret hx hb hr hlocks ⟨h1, hw.2.1, h2, h3, hw.2.2.2.2⟩ dL_giveBack_19))
set_option maxHeartbeats 4000000 in
set_option maxRecDepth 100000 in
theorem cw_mask {l : Launch} {D : va_G} {cI cR cL : ClassId} {ad : Nat → Nat} {A : Nat → Prop} {O : XO} {K : RK} {oa : Nat} {g : Nat → Int64} {a1 : Int32} {res : Nat ⊕ (Int32 × XO × RK)} (htr : l.stackTraces = false) (hf : f_X5_mask O K a1 = some res) (hk : ∀ k, res = .inl k → k = 1 ∨ k = 3) : Met l yL_mask wsL_mask ({ frames := 8, cells := 2, slots := 12, locals := 137 }) (va_Pc [.ref (ad 0), .int a1, .ref oa] (PW D cI cR cL A (xws cI cR ad O K ++ oc cL oa g))) (QV (some (.int (resK 1 res))) D A (Sum.elim (fun _ => (xws cI cR ad O K ++ oc cL oa g)) (fun u : (Int32 × XO × RK) => xws cI cR ad u.2.1 u.2.2 ++ oc cL oa (ocu g u.1.toInt64)) res)) 2 12 A := by
  refine met_of_vx (vx_ofWH (cc := cL_mask) (maxL := 4) (ret := (some .int)) (by decide) rfl ?_)
  intro p e s m args below meth c s₁ B hml hv
  obtain ⟨-, hKL, hNC⟩ := hv.2
  obtain ⟨rfl, hw, hO, hA⟩ := x_start ⟨hv.1, hv.2.1⟩
  have hx := B.exec
  have hb := B.bytes
  have hr := B.returns
  have hts := atoms_spec (ws := wsL_mask) B.pre
  have hown : s.vm.findClass RL = some m.cls := findClass_of_methodNamed B.named
  have hlocks := B.notSynchronized
  have htab : c.exceptionTable.toList = [{ startPc := 0, endPc := 9, handlerPc := 12, catchType := 21 }, { startPc := 0, endPc := 9, handlerPc := 15, catchType := 15 }] := vx_table (x := yL_mask) B (hts _ List.mem_cons_self)
  have hCD := hO.2.2.2.2.2.2.1
  have hl := lv_entry ([.ref (ad 0), .int a1, .ref oa]) (n := 4) (Nat.le_of_ble_eq_true rfl)
  rw [lg_entry_eq]
  generalize (lg_sl ([.ref (ad 0), .int a1, .ref oa]) ++ List.replicate (4 - (lg_sl ([.ref (ad 0), .int a1, .ref oa])).length) Slot.unset).toArray = ls at hl ⊢
  have hl : lv_has ls 4 [(0, .ref (ad 0)), (1, .int a1), (2, .ref oa)] := hl
  refine lv_aload_n hx hb dL_mask_0 rfl (lv_at hl 2 rfl) ?_
  refine lv_iconst (v := 0) hx hb dL_mask_1 (by decide) ?_
  refine lv_aload_n hx hb dL_mask_2 rfl (lv_at hl 0 rfl) ?_
  refine lv_iload_n hx hb dL_mask_3 rfl (lv_at hl 1 rfl) ?_
  refine w_runX (r := oc cL oa g) (vx_runV (b := ad 0) (As := [.int a1]) (rest := [.int 0, .ref oa]) ⟨hx, hb, hml, hown, hts⟩ (c_X5_mask (A := AR A (oc cL oa g)) htr hf) (cwV 1 hts gL_mask_X5_mask rfl rfl rfl (by decide +kernel) ⟨Nat.le_of_ble_eq_true rfl, Nat.le_of_ble_eq_true rfl⟩) ⟨x_blind, va_recv hw.2.1 (f_sub hw).1 (ci := 5) (q0 := 0) rfl xa_0, fun U hU hW => ⟨rfl, f_PX hw hO hA hU hW⟩⟩ rfl rfl hl.1 rfl (lv_room (Nat.le_of_ble_eq_true rfl)) dL_mask_4 ⟨Nat.le_of_ble_eq_true rfl, Nat.le_of_ble_eq_true rfl⟩) hw (fun k hk9 H locs q9 ce hw hq1 hq2 hq3 => ?_) (fun u hu H locs hw => ?_)
  · rcases hk k hk9 with rfl | rfl
    · subst hk9
      refine vx_catch (name := "java/lang/IndexOutOfBoundsException") (E := "java/lang/IndexOutOfBoundsException") hown [] { startPc := 0, endPc := 9, handlerPc := 12, catchType := 21 } [{ startPc := 0, endPc := 9, handlerPc := 15, catchType := 15 }] htab (fun z h => absurd h List.not_mem_nil) (by decide) (by decide) (hts (.classLink RL 21 "java/lang/IndexOutOfBoundsException") (by decide +kernel)) (va_Nw.use rfl (hCD (.castable "java/lang/IndexOutOfBoundsException" "java/lang/IndexOutOfBoundsException") (by decide +kernel))) hq1 hq2 hq3 ?_
      refine W.eq (g2 := F0 m 12 ls [.ref q9]) rfl ?_
      refine lv_astore_n (lv' := [(3, .ref q9), (0, .ref (ad 0)), (1, .int a1), (2, .ref oa)]) hx hb dL_mask_12 rfl hl (by decide) rfl (fun ls hl => ?_)
      refine lv_iconst (v := 1) hx hb dL_mask_13 (by decide) ?_
      exact vx_ret (W.widen (k := 2) (n := 12) (Nat.le_of_ble_eq_true rfl) (Nat.le_of_ble_eq_true rfl) (q_iret hx hb hr hlocks hw dL_mask_14))
    · subst hk9
      refine vx_catch (name := "java/lang/IllegalStateException") (E := "java/lang/IllegalStateException") hown [{ startPc := 0, endPc := 9, handlerPc := 12, catchType := 21 }] { startPc := 0, endPc := 9, handlerPc := 15, catchType := 15 } [] htab (fun z h => by cases List.mem_singleton.mp h; exact Or.inr ⟨by decide, "java/lang/IndexOutOfBoundsException", hts (.classLink RL 21 "java/lang/IndexOutOfBoundsException") (by decide +kernel), hNC ("java/lang/IllegalStateException", "java/lang/IndexOutOfBoundsException") (by decide)⟩) (by decide) (by decide) (hts (.classLink RL 15 "java/lang/IllegalStateException") (by decide +kernel)) (va_Nw.use rfl (hCD (.castable "java/lang/IllegalStateException" "java/lang/IllegalStateException") (by decide +kernel))) hq1 hq2 hq3 ?_
      refine W.eq (g2 := F0 m 15 ls [.ref q9]) rfl ?_
      refine lv_astore_n (lv' := [(3, .ref q9), (0, .ref (ad 0)), (1, .int a1), (2, .ref oa)]) hx hb dL_mask_15 rfl hl (by decide) rfl (fun ls hl => ?_)
      refine lv_iconst (v := 2) hx hb dL_mask_16 (by decide) ?_
      exact vx_ret (W.widen (k := 2) (n := 12) (Nat.le_of_ble_eq_true rfl) (Nat.le_of_ble_eq_true rfl) (q_iret hx hb hr hlocks hw dL_mask_17))
  · subst hu
    refine W.eq (g2 := F0 m 7 ls [.int u.1, .int 0, .ref oa]) rfl ?_
    refine lv_i2l hx hb dL_mask_7 rfl ?_
    refine va_last hx hb hKL hw.1 hw.2.2.1 hw.2.2.2.1 ((xws cI cR ad u.2.1 u.2.2).length + 0) 0 (wg.trans rfl) rfl (inb_in (by decide)) dL_mask_8 (fun H locs h1 h2 h3 => ?_)
    rw [wset] at h1 h2
    refine lv_goto (tgt := 18) hx hb dL_mask_9 (by decide) ?_
    refine lv_iconst (v := 0) hx hb dL_mask_18 (by decide) ?_
    exact vx_ret (W.widen (k := 2) (n := 12) (Nat.le_of_ble_eq_true rfl) (Nat.le_of_ble_eq_true rfl) (q_iret hx hb hr hlocks ⟨h1, hw.2.1, h2, h3, hw.2.2.2.2⟩ dL_mask_19))
set_option maxHeartbeats 4000000 in
set_option maxRecDepth 100000 in
theorem cw_pay {l : Launch} {D : va_G} {cI cR cL : ClassId} {ad : Nat → Nat} {A : Nat → Prop} {O : XO} {K : RK} {oa : Nat} {g : Nat → Int64} {a1 : Int32} {res : Nat ⊕ (Int32 × XO × RK)} (htr : l.stackTraces = false) (hf : f_X5_pay O K a1 = some res) (hk : ∀ k, res = .inl k → k = 1) : Met l yL_pay wsL_pay ({ frames := 8, cells := 1, slots := 6, locals := 137 }) (va_Pc [.ref (ad 0), .int a1, .ref oa] (PW D cI cR cL A (xws cI cR ad O K ++ oc cL oa g))) (QV (some (.int (resK 1 res))) D A (Sum.elim (fun _ => (xws cI cR ad O K ++ oc cL oa g)) (fun u : (Int32 × XO × RK) => xws cI cR ad u.2.1 u.2.2 ++ oc cL oa (ocu g u.1.toInt64)) res)) 1 6 A := by
  refine met_of_vx (vx_ofWH (cc := cL_pay) (maxL := 4) (ret := (some .int)) (by decide) rfl ?_)
  intro p e s m args below meth c s₁ B hml hv
  obtain ⟨-, hKL, hNC⟩ := hv.2
  obtain ⟨rfl, hw, hO, hA⟩ := x_start ⟨hv.1, hv.2.1⟩
  have hx := B.exec
  have hb := B.bytes
  have hr := B.returns
  have hts := atoms_spec (ws := wsL_pay) B.pre
  have hown : s.vm.findClass RL = some m.cls := findClass_of_methodNamed B.named
  have hlocks := B.notSynchronized
  have htab : c.exceptionTable.toList = [{ startPc := 0, endPc := 9, handlerPc := 12, catchType := 21 }] := vx_table (x := yL_pay) B (hts _ List.mem_cons_self)
  have hCD := hO.2.2.2.2.2.2.1
  have hl := lv_entry ([.ref (ad 0), .int a1, .ref oa]) (n := 4) (Nat.le_of_ble_eq_true rfl)
  rw [lg_entry_eq]
  generalize (lg_sl ([.ref (ad 0), .int a1, .ref oa]) ++ List.replicate (4 - (lg_sl ([.ref (ad 0), .int a1, .ref oa])).length) Slot.unset).toArray = ls at hl ⊢
  have hl : lv_has ls 4 [(0, .ref (ad 0)), (1, .int a1), (2, .ref oa)] := hl
  refine lv_aload_n hx hb dL_pay_0 rfl (lv_at hl 2 rfl) ?_
  refine lv_iconst (v := 0) hx hb dL_pay_1 (by decide) ?_
  refine lv_aload_n hx hb dL_pay_2 rfl (lv_at hl 0 rfl) ?_
  refine lv_iload_n hx hb dL_pay_3 rfl (lv_at hl 1 rfl) ?_
  refine w_runX (r := oc cL oa g) (vx_runV (b := ad 0) (As := [.int a1]) (rest := [.int 0, .ref oa]) ⟨hx, hb, hml, hown, hts⟩ (c_X5_pay (A := AR A (oc cL oa g)) htr hf) (cwV 1 hts gL_pay_X5_pay rfl rfl rfl (by decide +kernel) ⟨Nat.le_of_ble_eq_true rfl, Nat.le_of_ble_eq_true rfl⟩) ⟨x_blind, va_recv hw.2.1 (f_sub hw).1 (ci := 5) (q0 := 0) rfl xa_0, fun U hU hW => ⟨rfl, f_PX hw hO hA hU hW⟩⟩ rfl rfl hl.1 rfl (lv_room (Nat.le_of_ble_eq_true rfl)) dL_pay_4 ⟨Nat.le_of_ble_eq_true rfl, Nat.le_of_ble_eq_true rfl⟩) hw (fun k hk9 H locs q9 ce hw hq1 hq2 hq3 => ?_) (fun u hu H locs hw => ?_)
  · rcases hk k hk9 with rfl
    · subst hk9
      refine vx_catch (name := "java/lang/IndexOutOfBoundsException") (E := "java/lang/IndexOutOfBoundsException") hown [] { startPc := 0, endPc := 9, handlerPc := 12, catchType := 21 } [] htab (fun z h => absurd h List.not_mem_nil) (by decide) (by decide) (hts (.classLink RL 21 "java/lang/IndexOutOfBoundsException") (by decide +kernel)) (va_Nw.use rfl (hCD (.castable "java/lang/IndexOutOfBoundsException" "java/lang/IndexOutOfBoundsException") (by decide +kernel))) hq1 hq2 hq3 ?_
      refine W.eq (g2 := F0 m 12 ls [.ref q9]) rfl ?_
      refine lv_astore_n (lv' := [(3, .ref q9), (0, .ref (ad 0)), (1, .int a1), (2, .ref oa)]) hx hb dL_pay_12 rfl hl (by decide) rfl (fun ls hl => ?_)
      refine lv_iconst (v := 1) hx hb dL_pay_13 (by decide) ?_
      exact vx_ret (W.widen (k := 1) (n := 6) (Nat.le_of_ble_eq_true rfl) (Nat.le_of_ble_eq_true rfl) (q_iret hx hb hr hlocks hw dL_pay_14))
  · subst hu
    refine W.eq (g2 := F0 m 7 ls [.int u.1, .int 0, .ref oa]) rfl ?_
    refine lv_i2l hx hb dL_pay_7 rfl ?_
    refine va_last hx hb hKL hw.1 hw.2.2.1 hw.2.2.2.1 ((xws cI cR ad u.2.1 u.2.2).length + 0) 0 (wg.trans rfl) rfl (inb_in (by decide)) dL_pay_8 (fun H locs h1 h2 h3 => ?_)
    rw [wset] at h1 h2
    refine lv_goto (tgt := 15) hx hb dL_pay_9 (by decide) ?_
    refine lv_iconst (v := 0) hx hb dL_pay_15 (by decide) ?_
    exact vx_ret (W.widen (k := 1) (n := 6) (Nat.le_of_ble_eq_true rfl) (Nat.le_of_ble_eq_true rfl) (q_iret hx hb hr hlocks ⟨h1, hw.2.1, h2, h3, hw.2.2.2.2⟩ dL_pay_16))
set_option maxHeartbeats 4000000 in
set_option maxRecDepth 100000 in
theorem cw_queue {l : Launch} {D : va_G} {cI cR cL : ClassId} {ad : Nat → Nat} {A : Nat → Prop} {O : XO} {K : RK} {oa : Nat} {g : Nat → Int64} {a1 : Int32} {a2 : Int32} {res : Nat ⊕ (Int32 × XO × RK)} (htr : l.stackTraces = false) (hf : f_X5_queue O K a1 a2 = some res) (hk : ∀ k, res = .inl k → k = 1 ∨ k = 3) : Met l yL_queue wsL_queue ({ frames := 8, cells := 3, slots := 18, locals := 138 }) (va_Pc [.ref (ad 0), .int a1, .int a2, .ref oa] (PW D cI cR cL A (xws cI cR ad O K ++ oc cL oa g))) (QV (some (.int (resK 1 res))) D A (Sum.elim (fun _ => (xws cI cR ad O K ++ oc cL oa g)) (fun u : (Int32 × XO × RK) => xws cI cR ad u.2.1 u.2.2 ++ oc cL oa (ocu g u.1.toInt64)) res)) 3 18 A := by
  refine met_of_vx (vx_ofWH (cc := cL_queue) (maxL := 5) (ret := (some .int)) (by decide) rfl ?_)
  intro p e s m args below meth c s₁ B hml hv
  obtain ⟨-, hKL, hNC⟩ := hv.2
  obtain ⟨rfl, hw, hO, hA⟩ := x_start ⟨hv.1, hv.2.1⟩
  have hx := B.exec
  have hb := B.bytes
  have hr := B.returns
  have hts := atoms_spec (ws := wsL_queue) B.pre
  have hown : s.vm.findClass RL = some m.cls := findClass_of_methodNamed B.named
  have hlocks := B.notSynchronized
  have htab : c.exceptionTable.toList = [{ startPc := 0, endPc := 10, handlerPc := 13, catchType := 21 }, { startPc := 0, endPc := 10, handlerPc := 17, catchType := 15 }] := vx_table (x := yL_queue) B (hts _ List.mem_cons_self)
  have hCD := hO.2.2.2.2.2.2.1
  have hl := lv_entry ([.ref (ad 0), .int a1, .int a2, .ref oa]) (n := 5) (Nat.le_of_ble_eq_true rfl)
  rw [lg_entry_eq]
  generalize (lg_sl ([.ref (ad 0), .int a1, .int a2, .ref oa]) ++ List.replicate (5 - (lg_sl ([.ref (ad 0), .int a1, .int a2, .ref oa])).length) Slot.unset).toArray = ls at hl ⊢
  have hl : lv_has ls 5 [(0, .ref (ad 0)), (1, .int a1), (2, .int a2), (3, .ref oa)] := hl
  refine lv_aload_n hx hb dL_queue_0 rfl (lv_at hl 3 rfl) ?_
  refine lv_iconst (v := 0) hx hb dL_queue_1 (by decide) ?_
  refine lv_aload_n hx hb dL_queue_2 rfl (lv_at hl 0 rfl) ?_
  refine lv_iload_n hx hb dL_queue_3 rfl (lv_at hl 1 rfl) ?_
  refine lv_iload_n hx hb dL_queue_4 rfl (lv_at hl 2 rfl) ?_
  refine w_runX (r := oc cL oa g) (vx_runV (b := ad 0) (As := [.int a1, .int a2]) (rest := [.int 0, .ref oa]) ⟨hx, hb, hml, hown, hts⟩ (c_X5_queue (A := AR A (oc cL oa g)) htr hf) (cwV 2 hts gL_queue_X5_queue rfl rfl rfl (by decide +kernel) ⟨Nat.le_of_ble_eq_true rfl, Nat.le_of_ble_eq_true rfl⟩) ⟨x_blind, va_recv hw.2.1 (f_sub hw).1 (ci := 5) (q0 := 0) rfl xa_0, fun U hU hW => ⟨rfl, f_PX hw hO hA hU hW⟩⟩ rfl rfl hl.1 rfl (lv_room (Nat.le_of_ble_eq_true rfl)) dL_queue_5 ⟨Nat.le_of_ble_eq_true rfl, Nat.le_of_ble_eq_true rfl⟩) hw (fun k hk9 H locs q9 ce hw hq1 hq2 hq3 => ?_) (fun u hu H locs hw => ?_)
  · rcases hk k hk9 with rfl | rfl
    · subst hk9
      refine vx_catch (name := "java/lang/IndexOutOfBoundsException") (E := "java/lang/IndexOutOfBoundsException") hown [] { startPc := 0, endPc := 10, handlerPc := 13, catchType := 21 } [{ startPc := 0, endPc := 10, handlerPc := 17, catchType := 15 }] htab (fun z h => absurd h List.not_mem_nil) (by decide) (by decide) (hts (.classLink RL 21 "java/lang/IndexOutOfBoundsException") (by decide +kernel)) (va_Nw.use rfl (hCD (.castable "java/lang/IndexOutOfBoundsException" "java/lang/IndexOutOfBoundsException") (by decide +kernel))) hq1 hq2 hq3 ?_
      refine W.eq (g2 := F0 m 13 ls [.ref q9]) rfl ?_
      refine lv_astore (lv' := [(4, .ref q9), (0, .ref (ad 0)), (1, .int a1), (2, .int a2), (3, .ref oa)]) hx hb dL_queue_13 hl (by decide) rfl (fun ls hl => ?_)
      refine lv_iconst (v := 1) hx hb dL_queue_15 (by decide) ?_
      exact vx_ret (W.widen (k := 3) (n := 18) (Nat.le_of_ble_eq_true rfl) (Nat.le_of_ble_eq_true rfl) (q_iret hx hb hr hlocks hw dL_queue_16))
    · subst hk9
      refine vx_catch (name := "java/lang/IllegalStateException") (E := "java/lang/IllegalStateException") hown [{ startPc := 0, endPc := 10, handlerPc := 13, catchType := 21 }] { startPc := 0, endPc := 10, handlerPc := 17, catchType := 15 } [] htab (fun z h => by cases List.mem_singleton.mp h; exact Or.inr ⟨by decide, "java/lang/IndexOutOfBoundsException", hts (.classLink RL 21 "java/lang/IndexOutOfBoundsException") (by decide +kernel), hNC ("java/lang/IllegalStateException", "java/lang/IndexOutOfBoundsException") (by decide)⟩) (by decide) (by decide) (hts (.classLink RL 15 "java/lang/IllegalStateException") (by decide +kernel)) (va_Nw.use rfl (hCD (.castable "java/lang/IllegalStateException" "java/lang/IllegalStateException") (by decide +kernel))) hq1 hq2 hq3 ?_
      refine W.eq (g2 := F0 m 17 ls [.ref q9]) rfl ?_
      refine lv_astore (lv' := [(4, .ref q9), (0, .ref (ad 0)), (1, .int a1), (2, .int a2), (3, .ref oa)]) hx hb dL_queue_17 hl (by decide) rfl (fun ls hl => ?_)
      refine lv_iconst (v := 2) hx hb dL_queue_19 (by decide) ?_
      exact vx_ret (W.widen (k := 3) (n := 18) (Nat.le_of_ble_eq_true rfl) (Nat.le_of_ble_eq_true rfl) (q_iret hx hb hr hlocks hw dL_queue_20))
  · subst hu
    refine W.eq (g2 := F0 m 8 ls [.int u.1, .int 0, .ref oa]) rfl ?_
    refine lv_i2l hx hb dL_queue_8 rfl ?_
    refine va_last hx hb hKL hw.1 hw.2.2.1 hw.2.2.2.1 ((xws cI cR ad u.2.1 u.2.2).length + 0) 0 (wg.trans rfl) rfl (inb_in (by decide)) dL_queue_9 (fun H locs h1 h2 h3 => ?_)
    rw [wset] at h1 h2
    refine lv_goto (tgt := 21) hx hb dL_queue_10 (by decide) ?_
    refine lv_iconst (v := 0) hx hb dL_queue_21 (by decide) ?_
    exact vx_ret (W.widen (k := 3) (n := 18) (Nat.le_of_ble_eq_true rfl) (Nat.le_of_ble_eq_true rfl) (q_iret hx hb hr hlocks ⟨h1, hw.2.1, h2, h3, hw.2.2.2.2⟩ dL_queue_22))
set_option maxHeartbeats 4000000 in
set_option maxRecDepth 100000 in
theorem cw_open {l : Launch} {D : va_G} {cI cR cL : ClassId} {ad : Nat → Nat} {A : Nat → Prop} {O : XO} {K : RK} {oa : Nat} {g : Nat → Int64} {a1 : Int32} {res : Nat ⊕ (Int32 × XO × RK)} (htr : l.stackTraces = false) (hf : f_X5_open O K a1 = some res) (hk : ∀ k, res = .inl k → k = 1 ∨ k = 3) : Met l yL_open wsL_open ({ frames := 8, cells := 2, slots := 12, locals := 136 }) (va_Pc [.ref (ad 0), .int a1, .ref oa] (PW D cI cR cL A (xws cI cR ad O K ++ oc cL oa g))) (QV (some (.int (resK 1 res))) D A (Sum.elim (fun _ => (xws cI cR ad O K ++ oc cL oa g)) (fun u : (Int32 × XO × RK) => xws cI cR ad u.2.1 u.2.2 ++ oc cL oa (ocu g u.1.toInt64)) res)) 2 12 A := by
  refine met_of_vx (vx_ofWH (cc := cL_open) (maxL := 4) (ret := (some .int)) (by decide) rfl ?_)
  intro p e s m args below meth c s₁ B hml hv
  obtain ⟨-, hKL, hNC⟩ := hv.2
  obtain ⟨rfl, hw, hO, hA⟩ := x_start ⟨hv.1, hv.2.1⟩
  have hx := B.exec
  have hb := B.bytes
  have hr := B.returns
  have hts := atoms_spec (ws := wsL_open) B.pre
  have hown : s.vm.findClass RL = some m.cls := findClass_of_methodNamed B.named
  have hlocks := B.notSynchronized
  have htab : c.exceptionTable.toList = [{ startPc := 0, endPc := 9, handlerPc := 12, catchType := 21 }, { startPc := 0, endPc := 9, handlerPc := 15, catchType := 15 }] := vx_table (x := yL_open) B (hts _ List.mem_cons_self)
  have hCD := hO.2.2.2.2.2.2.1
  have hl := lv_entry ([.ref (ad 0), .int a1, .ref oa]) (n := 4) (Nat.le_of_ble_eq_true rfl)
  rw [lg_entry_eq]
  generalize (lg_sl ([.ref (ad 0), .int a1, .ref oa]) ++ List.replicate (4 - (lg_sl ([.ref (ad 0), .int a1, .ref oa])).length) Slot.unset).toArray = ls at hl ⊢
  have hl : lv_has ls 4 [(0, .ref (ad 0)), (1, .int a1), (2, .ref oa)] := hl
  refine lv_aload_n hx hb dL_open_0 rfl (lv_at hl 2 rfl) ?_
  refine lv_iconst (v := 0) hx hb dL_open_1 (by decide) ?_
  refine lv_aload_n hx hb dL_open_2 rfl (lv_at hl 0 rfl) ?_
  refine lv_iload_n hx hb dL_open_3 rfl (lv_at hl 1 rfl) ?_
  refine w_runX (r := oc cL oa g) (vx_runV (b := ad 0) (As := [.int a1]) (rest := [.int 0, .ref oa]) ⟨hx, hb, hml, hown, hts⟩ (c_X5_open (A := AR A (oc cL oa g)) htr hf) (cwV 1 hts gL_open_X5_open rfl rfl rfl (by decide +kernel) ⟨Nat.le_of_ble_eq_true rfl, Nat.le_of_ble_eq_true rfl⟩) ⟨x_blind, va_recv hw.2.1 (f_sub hw).1 (ci := 5) (q0 := 0) rfl xa_0, fun U hU hW => ⟨rfl, f_PX hw hO hA hU hW⟩⟩ rfl rfl hl.1 rfl (lv_room (Nat.le_of_ble_eq_true rfl)) dL_open_4 ⟨Nat.le_of_ble_eq_true rfl, Nat.le_of_ble_eq_true rfl⟩) hw (fun k hk9 H locs q9 ce hw hq1 hq2 hq3 => ?_) (fun u hu H locs hw => ?_)
  · rcases hk k hk9 with rfl | rfl
    · subst hk9
      refine vx_catch (name := "java/lang/IndexOutOfBoundsException") (E := "java/lang/IndexOutOfBoundsException") hown [] { startPc := 0, endPc := 9, handlerPc := 12, catchType := 21 } [{ startPc := 0, endPc := 9, handlerPc := 15, catchType := 15 }] htab (fun z h => absurd h List.not_mem_nil) (by decide) (by decide) (hts (.classLink RL 21 "java/lang/IndexOutOfBoundsException") (by decide +kernel)) (va_Nw.use rfl (hCD (.castable "java/lang/IndexOutOfBoundsException" "java/lang/IndexOutOfBoundsException") (by decide +kernel))) hq1 hq2 hq3 ?_
      refine W.eq (g2 := F0 m 12 ls [.ref q9]) rfl ?_
      refine lv_astore_n (lv' := [(3, .ref q9), (0, .ref (ad 0)), (1, .int a1), (2, .ref oa)]) hx hb dL_open_12 rfl hl (by decide) rfl (fun ls hl => ?_)
      refine lv_iconst (v := 1) hx hb dL_open_13 (by decide) ?_
      exact vx_ret (W.widen (k := 2) (n := 12) (Nat.le_of_ble_eq_true rfl) (Nat.le_of_ble_eq_true rfl) (q_iret hx hb hr hlocks hw dL_open_14))
    · subst hk9
      refine vx_catch (name := "java/lang/IllegalStateException") (E := "java/lang/IllegalStateException") hown [{ startPc := 0, endPc := 9, handlerPc := 12, catchType := 21 }] { startPc := 0, endPc := 9, handlerPc := 15, catchType := 15 } [] htab (fun z h => by cases List.mem_singleton.mp h; exact Or.inr ⟨by decide, "java/lang/IndexOutOfBoundsException", hts (.classLink RL 21 "java/lang/IndexOutOfBoundsException") (by decide +kernel), hNC ("java/lang/IllegalStateException", "java/lang/IndexOutOfBoundsException") (by decide)⟩) (by decide) (by decide) (hts (.classLink RL 15 "java/lang/IllegalStateException") (by decide +kernel)) (va_Nw.use rfl (hCD (.castable "java/lang/IllegalStateException" "java/lang/IllegalStateException") (by decide +kernel))) hq1 hq2 hq3 ?_
      refine W.eq (g2 := F0 m 15 ls [.ref q9]) rfl ?_
      refine lv_astore_n (lv' := [(3, .ref q9), (0, .ref (ad 0)), (1, .int a1), (2, .ref oa)]) hx hb dL_open_15 rfl hl (by decide) rfl (fun ls hl => ?_)
      refine lv_iconst (v := 2) hx hb dL_open_16 (by decide) ?_
      exact vx_ret (W.widen (k := 2) (n := 12) (Nat.le_of_ble_eq_true rfl) (Nat.le_of_ble_eq_true rfl) (q_iret hx hb hr hlocks hw dL_open_17))
  · subst hu
    refine W.eq (g2 := F0 m 7 ls [.int u.1, .int 0, .ref oa]) rfl ?_
    refine lv_i2l hx hb dL_open_7 rfl ?_
    refine va_last hx hb hKL hw.1 hw.2.2.1 hw.2.2.2.1 ((xws cI cR ad u.2.1 u.2.2).length + 0) 0 (wg.trans rfl) rfl (inb_in (by decide)) dL_open_8 (fun H locs h1 h2 h3 => ?_)
    rw [wset] at h1 h2
    refine lv_goto (tgt := 18) hx hb dL_open_9 (by decide) ?_
    refine lv_iconst (v := 0) hx hb dL_open_18 (by decide) ?_
    exact vx_ret (W.widen (k := 2) (n := 12) (Nat.le_of_ble_eq_true rfl) (Nat.le_of_ble_eq_true rfl) (q_iret hx hb hr hlocks ⟨h1, hw.2.1, h2, h3, hw.2.2.2.2⟩ dL_open_19))
set_option maxHeartbeats 4000000 in
set_option maxRecDepth 100000 in
theorem cw_append {l : Launch} {D : va_G} {cI cR cL : ClassId} {ad : Nat → Nat} {A : Nat → Prop} {O : XO} {K : RK} {oa : Nat} {g : Nat → Int64} {a1 : Int32} {res : Nat ⊕ (Int32 × XO)} (htr : l.stackTraces = false) (hf : f_X5_append O a1 = some res) (hk : ∀ k, res = .inl k → k = 2 ∨ k = 3) : Met l yL_append wsL_append ({ frames := 8, cells := 2, slots := 12, locals := 136 }) (va_Pc [.ref (ad 0), .int a1, .ref oa] (PW D cI cR cL A (xws cI cR ad O K ++ oc cL oa g))) (QV (some (.int (resK 2 res))) D A (Sum.elim (fun _ => (xws cI cR ad O K ++ oc cL oa g)) (fun u : (Int32 × XO) => xws cI cR ad u.2 K ++ oc cL oa (ocu g u.1.toInt64)) res)) 2 12 A := by
  refine met_of_vx (vx_ofWH (cc := cL_append) (maxL := 4) (ret := (some .int)) (by decide) rfl ?_)
  intro p e s m args below meth c s₁ B hml hv
  obtain ⟨-, hKL, hNC⟩ := hv.2
  obtain ⟨rfl, hw, hO, hA⟩ := x_start ⟨hv.1, hv.2.1⟩
  have hx := B.exec
  have hb := B.bytes
  have hr := B.returns
  have hts := atoms_spec (ws := wsL_append) B.pre
  have hown : s.vm.findClass RL = some m.cls := findClass_of_methodNamed B.named
  have hlocks := B.notSynchronized
  have htab : c.exceptionTable.toList = [{ startPc := 0, endPc := 9, handlerPc := 12, catchType := 13 }, { startPc := 0, endPc := 9, handlerPc := 15, catchType := 15 }] := vx_table (x := yL_append) B (hts _ List.mem_cons_self)
  have hCD := hO.2.2.2.2.2.2.1
  have hl := lv_entry ([.ref (ad 0), .int a1, .ref oa]) (n := 4) (Nat.le_of_ble_eq_true rfl)
  rw [lg_entry_eq]
  generalize (lg_sl ([.ref (ad 0), .int a1, .ref oa]) ++ List.replicate (4 - (lg_sl ([.ref (ad 0), .int a1, .ref oa])).length) Slot.unset).toArray = ls at hl ⊢
  have hl : lv_has ls 4 [(0, .ref (ad 0)), (1, .int a1), (2, .ref oa)] := hl
  refine lv_aload_n hx hb dL_append_0 rfl (lv_at hl 2 rfl) ?_
  refine lv_iconst (v := 0) hx hb dL_append_1 (by decide) ?_
  refine lv_aload_n hx hb dL_append_2 rfl (lv_at hl 0 rfl) ?_
  refine lv_iload_n hx hb dL_append_3 rfl (lv_at hl 1 rfl) ?_
  refine w_runX (r := oc cL oa g) (vx_runV (b := ad 0) (As := [.int a1]) (rest := [.int 0, .ref oa]) ⟨hx, hb, hml, hown, hts⟩ (c_X5_append (A := AR A (oc cL oa g)) htr hf) (cwV 1 hts gL_append_X5_append rfl rfl rfl (by decide +kernel) ⟨Nat.le_of_ble_eq_true rfl, Nat.le_of_ble_eq_true rfl⟩) ⟨x_blind, va_recv hw.2.1 (f_sub hw).1 (ci := 5) (q0 := 0) rfl xa_0, fun U hU hW => ⟨rfl, f_PX hw hO hA hU hW⟩⟩ rfl rfl hl.1 rfl (lv_room (Nat.le_of_ble_eq_true rfl)) dL_append_4 ⟨Nat.le_of_ble_eq_true rfl, Nat.le_of_ble_eq_true rfl⟩) hw (fun k hk9 H locs q9 ce hw hq1 hq2 hq3 => ?_) (fun u hu H locs hw => ?_)
  · rcases hk k hk9 with rfl | rfl
    · subst hk9
      refine vx_catch (name := "java/lang/IllegalArgumentException") (E := "java/lang/IllegalArgumentException") hown [] { startPc := 0, endPc := 9, handlerPc := 12, catchType := 13 } [{ startPc := 0, endPc := 9, handlerPc := 15, catchType := 15 }] htab (fun z h => absurd h List.not_mem_nil) (by decide) (by decide) (hts (.classLink RL 13 "java/lang/IllegalArgumentException") (by decide +kernel)) (va_Nw.use rfl (hCD (.castable "java/lang/IllegalArgumentException" "java/lang/IllegalArgumentException") (by decide +kernel))) hq1 hq2 hq3 ?_
      refine W.eq (g2 := F0 m 12 ls [.ref q9]) rfl ?_
      refine lv_astore_n (lv' := [(3, .ref q9), (0, .ref (ad 0)), (1, .int a1), (2, .ref oa)]) hx hb dL_append_12 rfl hl (by decide) rfl (fun ls hl => ?_)
      refine lv_iconst (v := 1) hx hb dL_append_13 (by decide) ?_
      exact vx_ret (W.widen (k := 2) (n := 12) (Nat.le_of_ble_eq_true rfl) (Nat.le_of_ble_eq_true rfl) (q_iret hx hb hr hlocks hw dL_append_14))
    · subst hk9
      refine vx_catch (name := "java/lang/IllegalStateException") (E := "java/lang/IllegalStateException") hown [{ startPc := 0, endPc := 9, handlerPc := 12, catchType := 13 }] { startPc := 0, endPc := 9, handlerPc := 15, catchType := 15 } [] htab (fun z h => by cases List.mem_singleton.mp h; exact Or.inr ⟨by decide, "java/lang/IllegalArgumentException", hts (.classLink RL 13 "java/lang/IllegalArgumentException") (by decide +kernel), hNC ("java/lang/IllegalStateException", "java/lang/IllegalArgumentException") (by decide)⟩) (by decide) (by decide) (hts (.classLink RL 15 "java/lang/IllegalStateException") (by decide +kernel)) (va_Nw.use rfl (hCD (.castable "java/lang/IllegalStateException" "java/lang/IllegalStateException") (by decide +kernel))) hq1 hq2 hq3 ?_
      refine W.eq (g2 := F0 m 15 ls [.ref q9]) rfl ?_
      refine lv_astore_n (lv' := [(3, .ref q9), (0, .ref (ad 0)), (1, .int a1), (2, .ref oa)]) hx hb dL_append_15 rfl hl (by decide) rfl (fun ls hl => ?_)
      refine lv_iconst (v := 2) hx hb dL_append_16 (by decide) ?_
      exact vx_ret (W.widen (k := 2) (n := 12) (Nat.le_of_ble_eq_true rfl) (Nat.le_of_ble_eq_true rfl) (q_iret hx hb hr hlocks hw dL_append_17))
  · subst hu
    refine W.eq (g2 := F0 m 7 ls [.int u.1, .int 0, .ref oa]) rfl ?_
    refine lv_i2l hx hb dL_append_7 rfl ?_
    refine va_last hx hb hKL hw.1 hw.2.2.1 hw.2.2.2.1 ((xws cI cR ad u.2 K).length + 0) 0 (wg.trans rfl) rfl (inb_in (by decide)) dL_append_8 (fun H locs h1 h2 h3 => ?_)
    rw [wset] at h1 h2
    refine lv_goto (tgt := 18) hx hb dL_append_9 (by decide) ?_
    refine lv_iconst (v := 0) hx hb dL_append_18 (by decide) ?_
    exact vx_ret (W.widen (k := 2) (n := 12) (Nat.le_of_ble_eq_true rfl) (Nat.le_of_ble_eq_true rfl) (q_iret hx hb hr hlocks ⟨h1, hw.2.1, h2, h3, hw.2.2.2.2⟩ dL_append_19))
set_option maxHeartbeats 4000000 in
set_option maxRecDepth 100000 in
theorem cw_revel {l : Launch} {D : va_G} {cI cR cL : ClassId} {ad : Nat → Nat} {A : Nat → Prop} {O : XO} {K : RK} {oa : Nat} {g : Nat → Int64}  {res : Nat ⊕ (Int32 × XO × RK)} (htr : l.stackTraces = false) (hf : f_X5_revel O K = some res) (hk : ∀ k, res = .inl k → k = 2) : Met l yL_revel wsL_revel ({ frames := 8, cells := 1, slots := 6, locals := 161 }) (va_Pc [.ref (ad 0), .ref oa] (PW D cI cR cL A (xws cI cR ad O K ++ oc cL oa g))) (QV (some (.int (resK 2 res))) D A (Sum.elim (fun _ => (xws cI cR ad O K ++ oc cL oa g)) (fun u : (Int32 × XO × RK) => xws cI cR ad u.2.1 u.2.2 ++ oc cL oa (ocu g u.1.toInt64)) res)) 1 6 A := by
  refine met_of_vx (vx_ofWH (cc := cL_revel) (maxL := 3) (ret := (some .int)) (by decide) rfl ?_)
  intro p e s m args below meth c s₁ B hml hv
  obtain ⟨-, hKL, hNC⟩ := hv.2
  obtain ⟨rfl, hw, hO, hA⟩ := x_start ⟨hv.1, hv.2.1⟩
  have hx := B.exec
  have hb := B.bytes
  have hr := B.returns
  have hts := atoms_spec (ws := wsL_revel) B.pre
  have hown : s.vm.findClass RL = some m.cls := findClass_of_methodNamed B.named
  have hlocks := B.notSynchronized
  have htab : c.exceptionTable.toList = [{ startPc := 0, endPc := 8, handlerPc := 11, catchType := 13 }] := vx_table (x := yL_revel) B (hts _ List.mem_cons_self)
  have hCD := hO.2.2.2.2.2.2.1
  have hl := lv_entry ([.ref (ad 0), .ref oa]) (n := 3) (Nat.le_of_ble_eq_true rfl)
  rw [lg_entry_eq]
  generalize (lg_sl ([.ref (ad 0), .ref oa]) ++ List.replicate (3 - (lg_sl ([.ref (ad 0), .ref oa])).length) Slot.unset).toArray = ls at hl ⊢
  have hl : lv_has ls 3 [(0, .ref (ad 0)), (1, .ref oa)] := hl
  refine lv_aload_n hx hb dL_revel_0 rfl (lv_at hl 1 rfl) ?_
  refine lv_iconst (v := 0) hx hb dL_revel_1 (by decide) ?_
  refine lv_aload_n hx hb dL_revel_2 rfl (lv_at hl 0 rfl) ?_
  refine w_runX (r := oc cL oa g) (vx_runV (b := ad 0) (As := []) (rest := [.int 0, .ref oa]) ⟨hx, hb, hml, hown, hts⟩ (c_X5_revel (A := AR A (oc cL oa g)) htr hf) (cwV 0 hts gL_revel_X5_revel rfl rfl rfl (by decide +kernel) ⟨Nat.le_of_ble_eq_true rfl, Nat.le_of_ble_eq_true rfl⟩) ⟨x_blind, va_recv hw.2.1 (f_sub hw).1 (ci := 5) (q0 := 0) rfl xa_0, fun U hU hW => ⟨rfl, f_PX hw hO hA hU hW⟩⟩ rfl rfl hl.1 rfl (lv_room (Nat.le_of_ble_eq_true rfl)) dL_revel_3 ⟨Nat.le_of_ble_eq_true rfl, Nat.le_of_ble_eq_true rfl⟩) hw (fun k hk9 H locs q9 ce hw hq1 hq2 hq3 => ?_) (fun u hu H locs hw => ?_)
  · rcases hk k hk9 with rfl
    · subst hk9
      refine vx_catch (name := "java/lang/IllegalArgumentException") (E := "java/lang/IllegalArgumentException") hown [] { startPc := 0, endPc := 8, handlerPc := 11, catchType := 13 } [] htab (fun z h => absurd h List.not_mem_nil) (by decide) (by decide) (hts (.classLink RL 13 "java/lang/IllegalArgumentException") (by decide +kernel)) (va_Nw.use rfl (hCD (.castable "java/lang/IllegalArgumentException" "java/lang/IllegalArgumentException") (by decide +kernel))) hq1 hq2 hq3 ?_
      refine W.eq (g2 := F0 m 11 ls [.ref q9]) rfl ?_
      refine lv_astore_n (lv' := [(2, .ref q9), (0, .ref (ad 0)), (1, .ref oa)]) hx hb dL_revel_11 rfl hl (by decide) rfl (fun ls hl => ?_)
      refine lv_iconst (v := 1) hx hb dL_revel_12 (by decide) ?_
      exact vx_ret (W.widen (k := 1) (n := 6) (Nat.le_of_ble_eq_true rfl) (Nat.le_of_ble_eq_true rfl) (q_iret hx hb hr hlocks hw dL_revel_13))
  · subst hu
    refine W.eq (g2 := F0 m 6 ls [.int u.1, .int 0, .ref oa]) rfl ?_
    refine lv_i2l hx hb dL_revel_6 rfl ?_
    refine va_last hx hb hKL hw.1 hw.2.2.1 hw.2.2.2.1 ((xws cI cR ad u.2.1 u.2.2).length + 0) 0 (wg.trans rfl) rfl (inb_in (by decide)) dL_revel_7 (fun H locs h1 h2 h3 => ?_)
    rw [wset] at h1 h2
    refine lv_goto (tgt := 14) hx hb dL_revel_8 (by decide) ?_
    refine lv_iconst (v := 0) hx hb dL_revel_14 (by decide) ?_
    exact vx_ret (W.widen (k := 1) (n := 6) (Nat.le_of_ble_eq_true rfl) (Nat.le_of_ble_eq_true rfl) (q_iret hx hb hr hlocks ⟨h1, hw.2.1, h2, h3, hw.2.2.2.2⟩ dL_revel_15))
set_option maxHeartbeats 4000000 in
set_option maxRecDepth 100000 in
theorem cw_stopped {l : Launch} {D : va_G} {cI cR cL : ClassId} {ad : Nat → Nat} {A : Nat → Prop} {O : XO} {K : RK} {oa : Nat} {g : Nat → Int64} {a1 : Int32} {res : Nat ⊕ Int32} (htr : l.stackTraces = false) (hf : f_X5_stopped K a1 = some res) (hk : ∀ k, res = .inl k → k = 2) : Met l yL_stopped wsL_stopped ({ frames := 8, cells := 1, slots := 6, locals := 136 }) (va_Pc [.ref (ad 0), .int a1, .ref oa] (PW D cI cR cL A (xws cI cR ad O K ++ oc cL oa g))) (QV (some (.int (resK 2 res))) D A (Sum.elim (fun _ => (xws cI cR ad O K ++ oc cL oa g)) (fun u : Int32 => xws cI cR ad O K ++ oc cL oa (ocu g u.toInt64)) res)) 1 6 A := by
  refine met_of_vx (vx_ofWH (cc := cL_stopped) (maxL := 4) (ret := (some .int)) (by decide) rfl ?_)
  intro p e s m args below meth c s₁ B hml hv
  obtain ⟨-, hKL, hNC⟩ := hv.2
  obtain ⟨rfl, hw, hO, hA⟩ := x_start ⟨hv.1, hv.2.1⟩
  have hx := B.exec
  have hb := B.bytes
  have hr := B.returns
  have hts := atoms_spec (ws := wsL_stopped) B.pre
  have hown : s.vm.findClass RL = some m.cls := findClass_of_methodNamed B.named
  have hlocks := B.notSynchronized
  have htab : c.exceptionTable.toList = [{ startPc := 0, endPc := 9, handlerPc := 12, catchType := 13 }] := vx_table (x := yL_stopped) B (hts _ List.mem_cons_self)
  have hCD := hO.2.2.2.2.2.2.1
  have hl := lv_entry ([.ref (ad 0), .int a1, .ref oa]) (n := 4) (Nat.le_of_ble_eq_true rfl)
  rw [lg_entry_eq]
  generalize (lg_sl ([.ref (ad 0), .int a1, .ref oa]) ++ List.replicate (4 - (lg_sl ([.ref (ad 0), .int a1, .ref oa])).length) Slot.unset).toArray = ls at hl ⊢
  have hl : lv_has ls 4 [(0, .ref (ad 0)), (1, .int a1), (2, .ref oa)] := hl
  refine lv_aload_n hx hb dL_stopped_0 rfl (lv_at hl 2 rfl) ?_
  refine lv_iconst (v := 0) hx hb dL_stopped_1 (by decide) ?_
  refine lv_aload_n hx hb dL_stopped_2 rfl (lv_at hl 0 rfl) ?_
  refine lv_iload_n hx hb dL_stopped_3 rfl (lv_at hl 1 rfl) ?_
  refine w_runX (r := oc cL oa g) (vx_runV (b := ad 0) (As := [.int a1]) (rest := [.int 0, .ref oa]) ⟨hx, hb, hml, hown, hts⟩ (c_X5_stopped (A := AR A (oc cL oa g)) htr hf) (cwV 1 hts gL_stopped_X5_stopped rfl rfl rfl (by decide +kernel) ⟨Nat.le_of_ble_eq_true rfl, Nat.le_of_ble_eq_true rfl⟩) ⟨x_blind, va_recv hw.2.1 (f_sub hw).1 (ci := 5) (q0 := 0) rfl xa_0, fun U hU hW => ⟨rfl, f_PX hw hO hA hU hW⟩⟩ rfl rfl hl.1 rfl (lv_room (Nat.le_of_ble_eq_true rfl)) dL_stopped_4 ⟨Nat.le_of_ble_eq_true rfl, Nat.le_of_ble_eq_true rfl⟩) hw (fun k hk9 H locs q9 ce hw hq1 hq2 hq3 => ?_) (fun u hu H locs hw => ?_)
  · rcases hk k hk9 with rfl
    · subst hk9
      refine vx_catch (name := "java/lang/IllegalArgumentException") (E := "java/lang/IllegalArgumentException") hown [] { startPc := 0, endPc := 9, handlerPc := 12, catchType := 13 } [] htab (fun z h => absurd h List.not_mem_nil) (by decide) (by decide) (hts (.classLink RL 13 "java/lang/IllegalArgumentException") (by decide +kernel)) (va_Nw.use rfl (hCD (.castable "java/lang/IllegalArgumentException" "java/lang/IllegalArgumentException") (by decide +kernel))) hq1 hq2 hq3 ?_
      refine W.eq (g2 := F0 m 12 ls [.ref q9]) rfl ?_
      refine lv_astore_n (lv' := [(3, .ref q9), (0, .ref (ad 0)), (1, .int a1), (2, .ref oa)]) hx hb dL_stopped_12 rfl hl (by decide) rfl (fun ls hl => ?_)
      refine lv_iconst (v := 1) hx hb dL_stopped_13 (by decide) ?_
      exact vx_ret (W.widen (k := 1) (n := 6) (Nat.le_of_ble_eq_true rfl) (Nat.le_of_ble_eq_true rfl) (q_iret hx hb hr hlocks hw dL_stopped_14))
  · subst hu
    refine W.eq (g2 := F0 m 7 ls [.int u, .int 0, .ref oa]) rfl ?_
    refine lv_i2l hx hb dL_stopped_7 rfl ?_
    refine va_last hx hb hKL hw.1 hw.2.2.1 hw.2.2.2.1 ((xws cI cR ad O K).length + 0) 0 (wg.trans rfl) rfl (inb_in (by decide)) dL_stopped_8 (fun H locs h1 h2 h3 => ?_)
    rw [wset] at h1 h2
    refine lv_goto (tgt := 15) hx hb dL_stopped_9 (by decide) ?_
    refine lv_iconst (v := 0) hx hb dL_stopped_15 (by decide) ?_
    exact vx_ret (W.widen (k := 1) (n := 6) (Nat.le_of_ble_eq_true rfl) (Nat.le_of_ble_eq_true rfl) (q_iret hx hb hr hlocks ⟨h1, hw.2.1, h2, h3, hw.2.2.2.2⟩ dL_stopped_16))
set_option maxHeartbeats 4000000 in
set_option maxRecDepth 100000 in
theorem cw_undo {l : Launch} {D : va_G} {cI cR cL : ClassId} {ad : Nat → Nat} {A : Nat → Prop} {O : XO} {K : RK} {oa : Nat} {g : Nat → Int64}  {res : Nat ⊕ (Int32 × XO × RK)} (htr : l.stackTraces = false) (hf : f_X5_undo O K = some res) (hk : ∀ k, res = .inl k → k = 3) : Met l yL_undo wsL_undo ({ frames := 8, cells := 1, slots := 6, locals := 135 }) (va_Pc [.ref (ad 0), .ref oa] (PW D cI cR cL A (xws cI cR ad O K ++ oc cL oa g))) (QV (some (.int (resK 3 res))) D A (Sum.elim (fun _ => (xws cI cR ad O K ++ oc cL oa g)) (fun u : (Int32 × XO × RK) => xws cI cR ad u.2.1 u.2.2 ++ oc cL oa (ocu g u.1.toInt64)) res)) 1 6 A := by
  refine met_of_vx (vx_ofWH (cc := cL_undo) (maxL := 3) (ret := (some .int)) (by decide) rfl ?_)
  intro p e s m args below meth c s₁ B hml hv
  obtain ⟨-, hKL, hNC⟩ := hv.2
  obtain ⟨rfl, hw, hO, hA⟩ := x_start ⟨hv.1, hv.2.1⟩
  have hx := B.exec
  have hb := B.bytes
  have hr := B.returns
  have hts := atoms_spec (ws := wsL_undo) B.pre
  have hown : s.vm.findClass RL = some m.cls := findClass_of_methodNamed B.named
  have hlocks := B.notSynchronized
  have htab : c.exceptionTable.toList = [{ startPc := 0, endPc := 8, handlerPc := 11, catchType := 15 }] := vx_table (x := yL_undo) B (hts _ List.mem_cons_self)
  have hCD := hO.2.2.2.2.2.2.1
  have hl := lv_entry ([.ref (ad 0), .ref oa]) (n := 3) (Nat.le_of_ble_eq_true rfl)
  rw [lg_entry_eq]
  generalize (lg_sl ([.ref (ad 0), .ref oa]) ++ List.replicate (3 - (lg_sl ([.ref (ad 0), .ref oa])).length) Slot.unset).toArray = ls at hl ⊢
  have hl : lv_has ls 3 [(0, .ref (ad 0)), (1, .ref oa)] := hl
  refine lv_aload_n hx hb dL_undo_0 rfl (lv_at hl 1 rfl) ?_
  refine lv_iconst (v := 0) hx hb dL_undo_1 (by decide) ?_
  refine lv_aload_n hx hb dL_undo_2 rfl (lv_at hl 0 rfl) ?_
  refine w_runX (r := oc cL oa g) (vx_runV (b := ad 0) (As := []) (rest := [.int 0, .ref oa]) ⟨hx, hb, hml, hown, hts⟩ (c_X5_undo (A := AR A (oc cL oa g)) htr hf) (cwV 0 hts gL_undo_X5_undo rfl rfl rfl (by decide +kernel) ⟨Nat.le_of_ble_eq_true rfl, Nat.le_of_ble_eq_true rfl⟩) ⟨x_blind, va_recv hw.2.1 (f_sub hw).1 (ci := 5) (q0 := 0) rfl xa_0, fun U hU hW => ⟨rfl, f_PX hw hO hA hU hW⟩⟩ rfl rfl hl.1 rfl (lv_room (Nat.le_of_ble_eq_true rfl)) dL_undo_3 ⟨Nat.le_of_ble_eq_true rfl, Nat.le_of_ble_eq_true rfl⟩) hw (fun k hk9 H locs q9 ce hw hq1 hq2 hq3 => ?_) (fun u hu H locs hw => ?_)
  · rcases hk k hk9 with rfl
    · subst hk9
      refine vx_catch (name := "java/lang/IllegalStateException") (E := "java/lang/IllegalStateException") hown [] { startPc := 0, endPc := 8, handlerPc := 11, catchType := 15 } [] htab (fun z h => absurd h List.not_mem_nil) (by decide) (by decide) (hts (.classLink RL 15 "java/lang/IllegalStateException") (by decide +kernel)) (va_Nw.use rfl (hCD (.castable "java/lang/IllegalStateException" "java/lang/IllegalStateException") (by decide +kernel))) hq1 hq2 hq3 ?_
      refine W.eq (g2 := F0 m 11 ls [.ref q9]) rfl ?_
      refine lv_astore_n (lv' := [(2, .ref q9), (0, .ref (ad 0)), (1, .ref oa)]) hx hb dL_undo_11 rfl hl (by decide) rfl (fun ls hl => ?_)
      refine lv_iconst (v := 1) hx hb dL_undo_12 (by decide) ?_
      exact vx_ret (W.widen (k := 1) (n := 6) (Nat.le_of_ble_eq_true rfl) (Nat.le_of_ble_eq_true rfl) (q_iret hx hb hr hlocks hw dL_undo_13))
  · subst hu
    refine W.eq (g2 := F0 m 6 ls [.int u.1, .int 0, .ref oa]) rfl ?_
    refine lv_i2l hx hb dL_undo_6 rfl ?_
    refine va_last hx hb hKL hw.1 hw.2.2.1 hw.2.2.2.1 ((xws cI cR ad u.2.1 u.2.2).length + 0) 0 (wg.trans rfl) rfl (inb_in (by decide)) dL_undo_7 (fun H locs h1 h2 h3 => ?_)
    rw [wset] at h1 h2
    refine lv_goto (tgt := 14) hx hb dL_undo_8 (by decide) ?_
    refine lv_iconst (v := 0) hx hb dL_undo_14 (by decide) ?_
    exact vx_ret (W.widen (k := 1) (n := 6) (Nat.le_of_ble_eq_true rfl) (Nat.le_of_ble_eq_true rfl) (q_iret hx hb hr hlocks ⟨h1, hw.2.1, h2, h3, hw.2.2.2.2⟩ dL_undo_15))
set_option maxHeartbeats 4000000 in
set_option maxRecDepth 100000 in
theorem cw_restore {l : Launch} {D : va_G} {cI cR cL : ClassId} {ad : Nat → Nat} {A : Nat → Prop} {O : XO} {K : RK} {oa : Nat} {g : Nat → Int64}  {res : Nat ⊕ (Int32 × XO × RK)} (htr : l.stackTraces = false) (hf : f_X5_restore O K = some res) (hk : ∀ k, res = .inl k → k = 3) : Met l yL_restore wsL_restore ({ frames := 8, cells := 1, slots := 6, locals := 135 }) (va_Pc [.ref (ad 0), .ref oa] (PW D cI cR cL A (xws cI cR ad O K ++ oc cL oa g))) (QV (some (.int (resK 3 res))) D A (Sum.elim (fun _ => (xws cI cR ad O K ++ oc cL oa g)) (fun u : (Int32 × XO × RK) => xws cI cR ad u.2.1 u.2.2 ++ oc cL oa (ocu g u.1.toInt64)) res)) 1 6 A := by
  refine met_of_vx (vx_ofWH (cc := cL_restore) (maxL := 3) (ret := (some .int)) (by decide) rfl ?_)
  intro p e s m args below meth c s₁ B hml hv
  obtain ⟨-, hKL, hNC⟩ := hv.2
  obtain ⟨rfl, hw, hO, hA⟩ := x_start ⟨hv.1, hv.2.1⟩
  have hx := B.exec
  have hb := B.bytes
  have hr := B.returns
  have hts := atoms_spec (ws := wsL_restore) B.pre
  have hown : s.vm.findClass RL = some m.cls := findClass_of_methodNamed B.named
  have hlocks := B.notSynchronized
  have htab : c.exceptionTable.toList = [{ startPc := 0, endPc := 8, handlerPc := 11, catchType := 15 }] := vx_table (x := yL_restore) B (hts _ List.mem_cons_self)
  have hCD := hO.2.2.2.2.2.2.1
  have hl := lv_entry ([.ref (ad 0), .ref oa]) (n := 3) (Nat.le_of_ble_eq_true rfl)
  rw [lg_entry_eq]
  generalize (lg_sl ([.ref (ad 0), .ref oa]) ++ List.replicate (3 - (lg_sl ([.ref (ad 0), .ref oa])).length) Slot.unset).toArray = ls at hl ⊢
  have hl : lv_has ls 3 [(0, .ref (ad 0)), (1, .ref oa)] := hl
  refine lv_aload_n hx hb dL_restore_0 rfl (lv_at hl 1 rfl) ?_
  refine lv_iconst (v := 0) hx hb dL_restore_1 (by decide) ?_
  refine lv_aload_n hx hb dL_restore_2 rfl (lv_at hl 0 rfl) ?_
  refine w_runX (r := oc cL oa g) (vx_runV (b := ad 0) (As := []) (rest := [.int 0, .ref oa]) ⟨hx, hb, hml, hown, hts⟩ (c_X5_restore (A := AR A (oc cL oa g)) htr hf) (cwV 0 hts gL_restore_X5_restore rfl rfl rfl (by decide +kernel) ⟨Nat.le_of_ble_eq_true rfl, Nat.le_of_ble_eq_true rfl⟩) ⟨x_blind, va_recv hw.2.1 (f_sub hw).1 (ci := 5) (q0 := 0) rfl xa_0, fun U hU hW => ⟨rfl, f_PX hw hO hA hU hW⟩⟩ rfl rfl hl.1 rfl (lv_room (Nat.le_of_ble_eq_true rfl)) dL_restore_3 ⟨Nat.le_of_ble_eq_true rfl, Nat.le_of_ble_eq_true rfl⟩) hw (fun k hk9 H locs q9 ce hw hq1 hq2 hq3 => ?_) (fun u hu H locs hw => ?_)
  · rcases hk k hk9 with rfl
    · subst hk9
      refine vx_catch (name := "java/lang/IllegalStateException") (E := "java/lang/IllegalStateException") hown [] { startPc := 0, endPc := 8, handlerPc := 11, catchType := 15 } [] htab (fun z h => absurd h List.not_mem_nil) (by decide) (by decide) (hts (.classLink RL 15 "java/lang/IllegalStateException") (by decide +kernel)) (va_Nw.use rfl (hCD (.castable "java/lang/IllegalStateException" "java/lang/IllegalStateException") (by decide +kernel))) hq1 hq2 hq3 ?_
      refine W.eq (g2 := F0 m 11 ls [.ref q9]) rfl ?_
      refine lv_astore_n (lv' := [(2, .ref q9), (0, .ref (ad 0)), (1, .ref oa)]) hx hb dL_restore_11 rfl hl (by decide) rfl (fun ls hl => ?_)
      refine lv_iconst (v := 1) hx hb dL_restore_12 (by decide) ?_
      exact vx_ret (W.widen (k := 1) (n := 6) (Nat.le_of_ble_eq_true rfl) (Nat.le_of_ble_eq_true rfl) (q_iret hx hb hr hlocks hw dL_restore_13))
  · subst hu
    refine W.eq (g2 := F0 m 6 ls [.int u.1, .int 0, .ref oa]) rfl ?_
    refine lv_i2l hx hb dL_restore_6 rfl ?_
    refine va_last hx hb hKL hw.1 hw.2.2.1 hw.2.2.2.1 ((xws cI cR ad u.2.1 u.2.2).length + 0) 0 (wg.trans rfl) rfl (inb_in (by decide)) dL_restore_7 (fun H locs h1 h2 h3 => ?_)
    rw [wset] at h1 h2
    refine lv_goto (tgt := 14) hx hb dL_restore_8 (by decide) ?_
    refine lv_iconst (v := 0) hx hb dL_restore_14 (by decide) ?_
    exact vx_ret (W.widen (k := 1) (n := 6) (Nat.le_of_ble_eq_true rfl) (Nat.le_of_ble_eq_true rfl) (q_iret hx hb hr hlocks ⟨h1, hw.2.1, h2, h3, hw.2.2.2.2⟩ dL_restore_15))
set_option maxHeartbeats 4000000 in
set_option maxRecDepth 100000 in
theorem cw_guest {l : Launch} {D : va_G} {cI cR cL : ClassId} {ad : Nat → Nat} {A : Nat → Prop} {O : XO} {K : RK} {oa : Nat} {g : Nat → Int64} {a1 : Int32} {a2 : Int32} {res : Nat ⊕ Int32} (htr : l.stackTraces = false) (hf : f_X5_guest K a1 a2 = some res) (hk : ∀ k, res = .inl k → k = 1 ∨ k = 2) : Met l yL_guest wsL_guest ({ frames := 8, cells := 2, slots := 12, locals := 138 }) (va_Pc [.ref (ad 0), .int a1, .int a2, .ref oa] (PW D cI cR cL A (xws cI cR ad O K ++ oc cL oa g))) (QV (some (.int (resK 1 res))) D A (Sum.elim (fun _ => (xws cI cR ad O K ++ oc cL oa g)) (fun u : Int32 => xws cI cR ad O K ++ oc cL oa (ocu g u.toInt64)) res)) 2 12 A := by
  refine met_of_vx (vx_ofWH (cc := cL_guest) (maxL := 5) (ret := (some .int)) (by decide) rfl ?_)
  intro p e s m args below meth c s₁ B hml hv
  obtain ⟨-, hKL, hNC⟩ := hv.2
  obtain ⟨rfl, hw, hO, hA⟩ := x_start ⟨hv.1, hv.2.1⟩
  have hx := B.exec
  have hb := B.bytes
  have hr := B.returns
  have hts := atoms_spec (ws := wsL_guest) B.pre
  have hown : s.vm.findClass RL = some m.cls := findClass_of_methodNamed B.named
  have hlocks := B.notSynchronized
  have htab : c.exceptionTable.toList = [{ startPc := 0, endPc := 10, handlerPc := 13, catchType := 21 }, { startPc := 0, endPc := 10, handlerPc := 17, catchType := 13 }] := vx_table (x := yL_guest) B (hts _ List.mem_cons_self)
  have hCD := hO.2.2.2.2.2.2.1
  have hl := lv_entry ([.ref (ad 0), .int a1, .int a2, .ref oa]) (n := 5) (Nat.le_of_ble_eq_true rfl)
  rw [lg_entry_eq]
  generalize (lg_sl ([.ref (ad 0), .int a1, .int a2, .ref oa]) ++ List.replicate (5 - (lg_sl ([.ref (ad 0), .int a1, .int a2, .ref oa])).length) Slot.unset).toArray = ls at hl ⊢
  have hl : lv_has ls 5 [(0, .ref (ad 0)), (1, .int a1), (2, .int a2), (3, .ref oa)] := hl
  refine lv_aload_n hx hb dL_guest_0 rfl (lv_at hl 3 rfl) ?_
  refine lv_iconst (v := 0) hx hb dL_guest_1 (by decide) ?_
  refine lv_aload_n hx hb dL_guest_2 rfl (lv_at hl 0 rfl) ?_
  refine lv_iload_n hx hb dL_guest_3 rfl (lv_at hl 1 rfl) ?_
  refine lv_iload_n hx hb dL_guest_4 rfl (lv_at hl 2 rfl) ?_
  refine w_runX (r := oc cL oa g) (vx_runV (b := ad 0) (As := [.int a1, .int a2]) (rest := [.int 0, .ref oa]) ⟨hx, hb, hml, hown, hts⟩ (c_X5_guest (A := AR A (oc cL oa g)) htr hf) (cwV 2 hts gL_guest_X5_guest rfl rfl rfl (by decide +kernel) ⟨Nat.le_of_ble_eq_true rfl, Nat.le_of_ble_eq_true rfl⟩) ⟨x_blind, va_recv hw.2.1 (f_sub hw).1 (ci := 5) (q0 := 0) rfl xa_0, fun U hU hW => ⟨rfl, f_PX hw hO hA hU hW⟩⟩ rfl rfl hl.1 rfl (lv_room (Nat.le_of_ble_eq_true rfl)) dL_guest_5 ⟨Nat.le_of_ble_eq_true rfl, Nat.le_of_ble_eq_true rfl⟩) hw (fun k hk9 H locs q9 ce hw hq1 hq2 hq3 => ?_) (fun u hu H locs hw => ?_)
  · rcases hk k hk9 with rfl | rfl
    · subst hk9
      refine vx_catch (name := "java/lang/IndexOutOfBoundsException") (E := "java/lang/IndexOutOfBoundsException") hown [] { startPc := 0, endPc := 10, handlerPc := 13, catchType := 21 } [{ startPc := 0, endPc := 10, handlerPc := 17, catchType := 13 }] htab (fun z h => absurd h List.not_mem_nil) (by decide) (by decide) (hts (.classLink RL 21 "java/lang/IndexOutOfBoundsException") (by decide +kernel)) (va_Nw.use rfl (hCD (.castable "java/lang/IndexOutOfBoundsException" "java/lang/IndexOutOfBoundsException") (by decide +kernel))) hq1 hq2 hq3 ?_
      refine W.eq (g2 := F0 m 13 ls [.ref q9]) rfl ?_
      refine lv_astore (lv' := [(4, .ref q9), (0, .ref (ad 0)), (1, .int a1), (2, .int a2), (3, .ref oa)]) hx hb dL_guest_13 hl (by decide) rfl (fun ls hl => ?_)
      refine lv_iconst (v := 1) hx hb dL_guest_15 (by decide) ?_
      exact vx_ret (W.widen (k := 2) (n := 12) (Nat.le_of_ble_eq_true rfl) (Nat.le_of_ble_eq_true rfl) (q_iret hx hb hr hlocks hw dL_guest_16))
    · subst hk9
      refine vx_catch (name := "java/lang/IllegalArgumentException") (E := "java/lang/IllegalArgumentException") hown [{ startPc := 0, endPc := 10, handlerPc := 13, catchType := 21 }] { startPc := 0, endPc := 10, handlerPc := 17, catchType := 13 } [] htab (fun z h => by cases List.mem_singleton.mp h; exact Or.inr ⟨by decide, "java/lang/IndexOutOfBoundsException", hts (.classLink RL 21 "java/lang/IndexOutOfBoundsException") (by decide +kernel), hNC ("java/lang/IllegalArgumentException", "java/lang/IndexOutOfBoundsException") (by decide)⟩) (by decide) (by decide) (hts (.classLink RL 13 "java/lang/IllegalArgumentException") (by decide +kernel)) (va_Nw.use rfl (hCD (.castable "java/lang/IllegalArgumentException" "java/lang/IllegalArgumentException") (by decide +kernel))) hq1 hq2 hq3 ?_
      refine W.eq (g2 := F0 m 17 ls [.ref q9]) rfl ?_
      refine lv_astore (lv' := [(4, .ref q9), (0, .ref (ad 0)), (1, .int a1), (2, .int a2), (3, .ref oa)]) hx hb dL_guest_17 hl (by decide) rfl (fun ls hl => ?_)
      refine lv_iconst (v := 2) hx hb dL_guest_19 (by decide) ?_
      exact vx_ret (W.widen (k := 2) (n := 12) (Nat.le_of_ble_eq_true rfl) (Nat.le_of_ble_eq_true rfl) (q_iret hx hb hr hlocks hw dL_guest_20))
  · subst hu
    refine W.eq (g2 := F0 m 8 ls [.int u, .int 0, .ref oa]) rfl ?_
    refine lv_i2l hx hb dL_guest_8 rfl ?_
    refine va_last hx hb hKL hw.1 hw.2.2.1 hw.2.2.2.1 ((xws cI cR ad O K).length + 0) 0 (wg.trans rfl) rfl (inb_in (by decide)) dL_guest_9 (fun H locs h1 h2 h3 => ?_)
    rw [wset] at h1 h2
    refine lv_goto (tgt := 21) hx hb dL_guest_10 (by decide) ?_
    refine lv_iconst (v := 0) hx hb dL_guest_21 (by decide) ?_
    exact vx_ret (W.widen (k := 2) (n := 12) (Nat.le_of_ble_eq_true rfl) (Nat.le_of_ble_eq_true rfl) (q_iret hx hb hr hlocks ⟨h1, hw.2.1, h2, h3, hw.2.2.2.2⟩ dL_guest_22))
set_option maxHeartbeats 4000000 in
set_option maxRecDepth 100000 in
theorem cw_law {l : Launch} {D : va_G} {cI cR cL : ClassId} {ad : Nat → Nat} {A : Nat → Prop} {O : XO} {K : RK} {oa : Nat} {g : Nat → Int64} {a1 : Int32} {a2 : Int32} {a3 : Int32} {res : Nat ⊕ Int32} (htr : l.stackTraces = false) (hf : f_X5_law K a1 a2 a3 = some res) (hk : ∀ k, res = .inl k → k = 1 ∨ k = 2) : Met l yL_law wsL_law ({ frames := 8, cells := 3, slots := 18, locals := 138 }) (va_Pc [.ref (ad 0), .int a1, .int a2, .int a3, .ref oa] (PW D cI cR cL A (xws cI cR ad O K ++ oc cL oa g))) (QV (some (.int (resK 1 res))) D A (Sum.elim (fun _ => (xws cI cR ad O K ++ oc cL oa g)) (fun u : Int32 => xws cI cR ad O K ++ oc cL oa (ocu g u.toInt64)) res)) 3 18 A := by
  refine met_of_vx (vx_ofWH (cc := cL_law) (maxL := 6) (ret := (some .int)) (by decide) rfl ?_)
  intro p e s m args below meth c s₁ B hml hv
  obtain ⟨-, hKL, hNC⟩ := hv.2
  obtain ⟨rfl, hw, hO, hA⟩ := x_start ⟨hv.1, hv.2.1⟩
  have hx := B.exec
  have hb := B.bytes
  have hr := B.returns
  have hts := atoms_spec (ws := wsL_law) B.pre
  have hown : s.vm.findClass RL = some m.cls := findClass_of_methodNamed B.named
  have hlocks := B.notSynchronized
  have htab : c.exceptionTable.toList = [{ startPc := 0, endPc := 12, handlerPc := 15, catchType := 21 }, { startPc := 0, endPc := 12, handlerPc := 19, catchType := 13 }] := vx_table (x := yL_law) B (hts _ List.mem_cons_self)
  have hCD := hO.2.2.2.2.2.2.1
  have hl := lv_entry ([.ref (ad 0), .int a1, .int a2, .int a3, .ref oa]) (n := 6) (Nat.le_of_ble_eq_true rfl)
  rw [lg_entry_eq]
  generalize (lg_sl ([.ref (ad 0), .int a1, .int a2, .int a3, .ref oa]) ++ List.replicate (6 - (lg_sl ([.ref (ad 0), .int a1, .int a2, .int a3, .ref oa])).length) Slot.unset).toArray = ls at hl ⊢
  have hl : lv_has ls 6 [(0, .ref (ad 0)), (1, .int a1), (2, .int a2), (3, .int a3), (4, .ref oa)] := hl
  refine lv_aload hx hb dL_law_0 (lv_at hl 4 rfl) ?_
  refine lv_iconst (v := 0) hx hb dL_law_2 (by decide) ?_
  refine lv_aload_n hx hb dL_law_3 rfl (lv_at hl 0 rfl) ?_
  refine lv_iload_n hx hb dL_law_4 rfl (lv_at hl 1 rfl) ?_
  refine lv_iload_n hx hb dL_law_5 rfl (lv_at hl 2 rfl) ?_
  refine lv_iload_n hx hb dL_law_6 rfl (lv_at hl 3 rfl) ?_
  refine w_runX (r := oc cL oa g) (vx_runV (b := ad 0) (As := [.int a1, .int a2, .int a3]) (rest := [.int 0, .ref oa]) ⟨hx, hb, hml, hown, hts⟩ (c_X5_law (A := AR A (oc cL oa g)) htr hf) (cwV 3 hts gL_law_X5_law rfl rfl rfl (by decide +kernel) ⟨Nat.le_of_ble_eq_true rfl, Nat.le_of_ble_eq_true rfl⟩) ⟨x_blind, va_recv hw.2.1 (f_sub hw).1 (ci := 5) (q0 := 0) rfl xa_0, fun U hU hW => ⟨rfl, f_PX hw hO hA hU hW⟩⟩ rfl rfl hl.1 rfl (lv_room (Nat.le_of_ble_eq_true rfl)) dL_law_7 ⟨Nat.le_of_ble_eq_true rfl, Nat.le_of_ble_eq_true rfl⟩) hw (fun k hk9 H locs q9 ce hw hq1 hq2 hq3 => ?_) (fun u hu H locs hw => ?_)
  · rcases hk k hk9 with rfl | rfl
    · subst hk9
      refine vx_catch (name := "java/lang/IndexOutOfBoundsException") (E := "java/lang/IndexOutOfBoundsException") hown [] { startPc := 0, endPc := 12, handlerPc := 15, catchType := 21 } [{ startPc := 0, endPc := 12, handlerPc := 19, catchType := 13 }] htab (fun z h => absurd h List.not_mem_nil) (by decide) (by decide) (hts (.classLink RL 21 "java/lang/IndexOutOfBoundsException") (by decide +kernel)) (va_Nw.use rfl (hCD (.castable "java/lang/IndexOutOfBoundsException" "java/lang/IndexOutOfBoundsException") (by decide +kernel))) hq1 hq2 hq3 ?_
      refine W.eq (g2 := F0 m 15 ls [.ref q9]) rfl ?_
      refine lv_astore (lv' := [(5, .ref q9), (0, .ref (ad 0)), (1, .int a1), (2, .int a2), (3, .int a3), (4, .ref oa)]) hx hb dL_law_15 hl (by decide) rfl (fun ls hl => ?_)
      refine lv_iconst (v := 1) hx hb dL_law_17 (by decide) ?_
      exact vx_ret (W.widen (k := 3) (n := 18) (Nat.le_of_ble_eq_true rfl) (Nat.le_of_ble_eq_true rfl) (q_iret hx hb hr hlocks hw dL_law_18))
    · subst hk9
      refine vx_catch (name := "java/lang/IllegalArgumentException") (E := "java/lang/IllegalArgumentException") hown [{ startPc := 0, endPc := 12, handlerPc := 15, catchType := 21 }] { startPc := 0, endPc := 12, handlerPc := 19, catchType := 13 } [] htab (fun z h => by cases List.mem_singleton.mp h; exact Or.inr ⟨by decide, "java/lang/IndexOutOfBoundsException", hts (.classLink RL 21 "java/lang/IndexOutOfBoundsException") (by decide +kernel), hNC ("java/lang/IllegalArgumentException", "java/lang/IndexOutOfBoundsException") (by decide)⟩) (by decide) (by decide) (hts (.classLink RL 13 "java/lang/IllegalArgumentException") (by decide +kernel)) (va_Nw.use rfl (hCD (.castable "java/lang/IllegalArgumentException" "java/lang/IllegalArgumentException") (by decide +kernel))) hq1 hq2 hq3 ?_
      refine W.eq (g2 := F0 m 19 ls [.ref q9]) rfl ?_
      refine lv_astore (lv' := [(5, .ref q9), (0, .ref (ad 0)), (1, .int a1), (2, .int a2), (3, .int a3), (4, .ref oa)]) hx hb dL_law_19 hl (by decide) rfl (fun ls hl => ?_)
      refine lv_iconst (v := 2) hx hb dL_law_21 (by decide) ?_
      exact vx_ret (W.widen (k := 3) (n := 18) (Nat.le_of_ble_eq_true rfl) (Nat.le_of_ble_eq_true rfl) (q_iret hx hb hr hlocks hw dL_law_22))
  · subst hu
    refine W.eq (g2 := F0 m 10 ls [.int u, .int 0, .ref oa]) rfl ?_
    refine lv_i2l hx hb dL_law_10 rfl ?_
    refine va_last hx hb hKL hw.1 hw.2.2.1 hw.2.2.2.1 ((xws cI cR ad O K).length + 0) 0 (wg.trans rfl) rfl (inb_in (by decide)) dL_law_11 (fun H locs h1 h2 h3 => ?_)
    rw [wset] at h1 h2
    refine lv_goto (tgt := 23) hx hb dL_law_12 (by decide) ?_
    refine lv_iconst (v := 0) hx hb dL_law_23 (by decide) ?_
    exact vx_ret (W.widen (k := 3) (n := 18) (Nat.le_of_ble_eq_true rfl) (Nat.le_of_ble_eq_true rfl) (q_iret hx hb hr hlocks ⟨h1, hw.2.1, h2, h3, hw.2.2.2.2⟩ dL_law_24))
set_option maxHeartbeats 4000000 in
set_option maxRecDepth 100000 in
theorem cw_count {l : Launch} {D : va_G} {cI cR cL : ClassId} {ad : Nat → Nat} {A : Nat → Prop} {O : XO} {K : RK} {oa : Nat} {g : Nat → Int64} {a1 : Int32} {res : Nat ⊕ Int32} (htr : l.stackTraces = false) (hf : f_X5_count O K a1 = some res) (hk : ∀ k, res = .inl k → k = 2) : Met l yL_count wsL_count ({ frames := 8, cells := 1, slots := 6, locals := 136 }) (va_Pc [.ref (ad 0), .int a1, .ref oa] (PW D cI cR cL A (xws cI cR ad O K ++ oc cL oa g))) (QV (some (.int (resK 2 res))) D A (Sum.elim (fun _ => (xws cI cR ad O K ++ oc cL oa g)) (fun u : Int32 => xws cI cR ad O K ++ oc cL oa (ocu g u.toInt64)) res)) 1 6 A := by
  refine met_of_vx (vx_ofWH (cc := cL_count) (maxL := 4) (ret := (some .int)) (by decide) rfl ?_)
  intro p e s m args below meth c s₁ B hml hv
  obtain ⟨-, hKL, hNC⟩ := hv.2
  obtain ⟨rfl, hw, hO, hA⟩ := x_start ⟨hv.1, hv.2.1⟩
  have hx := B.exec
  have hb := B.bytes
  have hr := B.returns
  have hts := atoms_spec (ws := wsL_count) B.pre
  have hown : s.vm.findClass RL = some m.cls := findClass_of_methodNamed B.named
  have hlocks := B.notSynchronized
  have htab : c.exceptionTable.toList = [{ startPc := 0, endPc := 9, handlerPc := 12, catchType := 13 }] := vx_table (x := yL_count) B (hts _ List.mem_cons_self)
  have hCD := hO.2.2.2.2.2.2.1
  have hl := lv_entry ([.ref (ad 0), .int a1, .ref oa]) (n := 4) (Nat.le_of_ble_eq_true rfl)
  rw [lg_entry_eq]
  generalize (lg_sl ([.ref (ad 0), .int a1, .ref oa]) ++ List.replicate (4 - (lg_sl ([.ref (ad 0), .int a1, .ref oa])).length) Slot.unset).toArray = ls at hl ⊢
  have hl : lv_has ls 4 [(0, .ref (ad 0)), (1, .int a1), (2, .ref oa)] := hl
  refine lv_aload_n hx hb dL_count_0 rfl (lv_at hl 2 rfl) ?_
  refine lv_iconst (v := 0) hx hb dL_count_1 (by decide) ?_
  refine lv_aload_n hx hb dL_count_2 rfl (lv_at hl 0 rfl) ?_
  refine lv_iload_n hx hb dL_count_3 rfl (lv_at hl 1 rfl) ?_
  refine w_runX (r := oc cL oa g) (vx_runV (b := ad 0) (As := [.int a1]) (rest := [.int 0, .ref oa]) ⟨hx, hb, hml, hown, hts⟩ (c_X5_count (A := AR A (oc cL oa g)) htr hf) (cwV 1 hts gL_count_X5_count rfl rfl rfl (by decide +kernel) ⟨Nat.le_of_ble_eq_true rfl, Nat.le_of_ble_eq_true rfl⟩) ⟨x_blind, va_recv hw.2.1 (f_sub hw).1 (ci := 5) (q0 := 0) rfl xa_0, fun U hU hW => ⟨rfl, f_PX hw hO hA hU hW⟩⟩ rfl rfl hl.1 rfl (lv_room (Nat.le_of_ble_eq_true rfl)) dL_count_4 ⟨Nat.le_of_ble_eq_true rfl, Nat.le_of_ble_eq_true rfl⟩) hw (fun k hk9 H locs q9 ce hw hq1 hq2 hq3 => ?_) (fun u hu H locs hw => ?_)
  · rcases hk k hk9 with rfl
    · subst hk9
      refine vx_catch (name := "java/lang/IllegalArgumentException") (E := "java/lang/IllegalArgumentException") hown [] { startPc := 0, endPc := 9, handlerPc := 12, catchType := 13 } [] htab (fun z h => absurd h List.not_mem_nil) (by decide) (by decide) (hts (.classLink RL 13 "java/lang/IllegalArgumentException") (by decide +kernel)) (va_Nw.use rfl (hCD (.castable "java/lang/IllegalArgumentException" "java/lang/IllegalArgumentException") (by decide +kernel))) hq1 hq2 hq3 ?_
      refine W.eq (g2 := F0 m 12 ls [.ref q9]) rfl ?_
      refine lv_astore_n (lv' := [(3, .ref q9), (0, .ref (ad 0)), (1, .int a1), (2, .ref oa)]) hx hb dL_count_12 rfl hl (by decide) rfl (fun ls hl => ?_)
      refine lv_iconst (v := 1) hx hb dL_count_13 (by decide) ?_
      exact vx_ret (W.widen (k := 1) (n := 6) (Nat.le_of_ble_eq_true rfl) (Nat.le_of_ble_eq_true rfl) (q_iret hx hb hr hlocks hw dL_count_14))
  · subst hu
    refine W.eq (g2 := F0 m 7 ls [.int u, .int 0, .ref oa]) rfl ?_
    refine lv_i2l hx hb dL_count_7 rfl ?_
    refine va_last hx hb hKL hw.1 hw.2.2.1 hw.2.2.2.1 ((xws cI cR ad O K).length + 0) 0 (wg.trans rfl) rfl (inb_in (by decide)) dL_count_8 (fun H locs h1 h2 h3 => ?_)
    rw [wset] at h1 h2
    refine lv_goto (tgt := 15) hx hb dL_count_9 (by decide) ?_
    refine lv_iconst (v := 0) hx hb dL_count_15 (by decide) ?_
    exact vx_ret (W.widen (k := 1) (n := 6) (Nat.le_of_ble_eq_true rfl) (Nat.le_of_ble_eq_true rfl) (q_iret hx hb hr hlocks ⟨h1, hw.2.1, h2, h3, hw.2.2.2.2⟩ dL_count_16))
set_option maxHeartbeats 4000000 in
set_option maxRecDepth 100000 in
theorem cw_line {l : Launch} {D : va_G} {cI cR cL : ClassId} {ad : Nat → Nat} {A : Nat → Prop} {O : XO} {K : RK} {oa : Nat} {g : Nat → Int64} {a1 : Int32} {res : Nat ⊕ Int32} (htr : l.stackTraces = false) (hf : f_X5_line K a1 = some res) (hk : ∀ k, res = .inl k → k = 1) : Met l yL_line wsL_line ({ frames := 8, cells := 1, slots := 6, locals := 136 }) (va_Pc [.ref (ad 0), .int a1, .ref oa] (PW D cI cR cL A (xws cI cR ad O K ++ oc cL oa g))) (QV (some (.int (resK 1 res))) D A (Sum.elim (fun _ => (xws cI cR ad O K ++ oc cL oa g)) (fun u : Int32 => xws cI cR ad O K ++ oc cL oa (ocu g u.toInt64)) res)) 1 6 A := by
  refine met_of_vx (vx_ofWH (cc := cL_line) (maxL := 4) (ret := (some .int)) (by decide) rfl ?_)
  intro p e s m args below meth c s₁ B hml hv
  obtain ⟨-, hKL, hNC⟩ := hv.2
  obtain ⟨rfl, hw, hO, hA⟩ := x_start ⟨hv.1, hv.2.1⟩
  have hx := B.exec
  have hb := B.bytes
  have hr := B.returns
  have hts := atoms_spec (ws := wsL_line) B.pre
  have hown : s.vm.findClass RL = some m.cls := findClass_of_methodNamed B.named
  have hlocks := B.notSynchronized
  have htab : c.exceptionTable.toList = [{ startPc := 0, endPc := 9, handlerPc := 12, catchType := 21 }] := vx_table (x := yL_line) B (hts _ List.mem_cons_self)
  have hCD := hO.2.2.2.2.2.2.1
  have hl := lv_entry ([.ref (ad 0), .int a1, .ref oa]) (n := 4) (Nat.le_of_ble_eq_true rfl)
  rw [lg_entry_eq]
  generalize (lg_sl ([.ref (ad 0), .int a1, .ref oa]) ++ List.replicate (4 - (lg_sl ([.ref (ad 0), .int a1, .ref oa])).length) Slot.unset).toArray = ls at hl ⊢
  have hl : lv_has ls 4 [(0, .ref (ad 0)), (1, .int a1), (2, .ref oa)] := hl
  refine lv_aload_n hx hb dL_line_0 rfl (lv_at hl 2 rfl) ?_
  refine lv_iconst (v := 0) hx hb dL_line_1 (by decide) ?_
  refine lv_aload_n hx hb dL_line_2 rfl (lv_at hl 0 rfl) ?_
  refine lv_iload_n hx hb dL_line_3 rfl (lv_at hl 1 rfl) ?_
  refine w_runX (r := oc cL oa g) (vx_runV (b := ad 0) (As := [.int a1]) (rest := [.int 0, .ref oa]) ⟨hx, hb, hml, hown, hts⟩ (c_X5_line (A := AR A (oc cL oa g)) htr hf) (cwV 1 hts gL_line_X5_line rfl rfl rfl (by decide +kernel) ⟨Nat.le_of_ble_eq_true rfl, Nat.le_of_ble_eq_true rfl⟩) ⟨x_blind, va_recv hw.2.1 (f_sub hw).1 (ci := 5) (q0 := 0) rfl xa_0, fun U hU hW => ⟨rfl, f_PX hw hO hA hU hW⟩⟩ rfl rfl hl.1 rfl (lv_room (Nat.le_of_ble_eq_true rfl)) dL_line_4 ⟨Nat.le_of_ble_eq_true rfl, Nat.le_of_ble_eq_true rfl⟩) hw (fun k hk9 H locs q9 ce hw hq1 hq2 hq3 => ?_) (fun u hu H locs hw => ?_)
  · rcases hk k hk9 with rfl
    · subst hk9
      refine vx_catch (name := "java/lang/IndexOutOfBoundsException") (E := "java/lang/IndexOutOfBoundsException") hown [] { startPc := 0, endPc := 9, handlerPc := 12, catchType := 21 } [] htab (fun z h => absurd h List.not_mem_nil) (by decide) (by decide) (hts (.classLink RL 21 "java/lang/IndexOutOfBoundsException") (by decide +kernel)) (va_Nw.use rfl (hCD (.castable "java/lang/IndexOutOfBoundsException" "java/lang/IndexOutOfBoundsException") (by decide +kernel))) hq1 hq2 hq3 ?_
      refine W.eq (g2 := F0 m 12 ls [.ref q9]) rfl ?_
      refine lv_astore_n (lv' := [(3, .ref q9), (0, .ref (ad 0)), (1, .int a1), (2, .ref oa)]) hx hb dL_line_12 rfl hl (by decide) rfl (fun ls hl => ?_)
      refine lv_iconst (v := 1) hx hb dL_line_13 (by decide) ?_
      exact vx_ret (W.widen (k := 1) (n := 6) (Nat.le_of_ble_eq_true rfl) (Nat.le_of_ble_eq_true rfl) (q_iret hx hb hr hlocks hw dL_line_14))
  · subst hu
    refine W.eq (g2 := F0 m 7 ls [.int u, .int 0, .ref oa]) rfl ?_
    refine lv_i2l hx hb dL_line_7 rfl ?_
    refine va_last hx hb hKL hw.1 hw.2.2.1 hw.2.2.2.1 ((xws cI cR ad O K).length + 0) 0 (wg.trans rfl) rfl (inb_in (by decide)) dL_line_8 (fun H locs h1 h2 h3 => ?_)
    rw [wset] at h1 h2
    refine lv_goto (tgt := 15) hx hb dL_line_9 (by decide) ?_
    refine lv_iconst (v := 0) hx hb dL_line_15 (by decide) ?_
    exact vx_ret (W.widen (k := 1) (n := 6) (Nat.le_of_ble_eq_true rfl) (Nat.le_of_ble_eq_true rfl) (q_iret hx hb hr hlocks ⟨h1, hw.2.1, h2, h3, hw.2.2.2.2⟩ dL_line_16))
set_option maxHeartbeats 4000000 in
set_option maxRecDepth 100000 in
theorem cw_noLoan {l : Launch} {D : va_G} {cI cR cL : ClassId} {ad : Nat → Nat} {A : Nat → Prop} {O : XO} {K : RK} {oa : Nat} {g : Nat → Int64} {a1 : Int32} {a2 : Int32} {res : Nat ⊕ Int32} (htr : l.stackTraces = false) (hf : f_X5_noLoan K a1 a2 = some res) (hk : ∀ k, res = .inl k → k = 1) : Met l yL_noLoan wsL_noLoan ({ frames := 8, cells := 2, slots := 12, locals := 138 }) (va_Pc [.ref (ad 0), .int a1, .int a2, .ref oa] (PW D cI cR cL A (xws cI cR ad O K ++ oc cL oa g))) (QV (some (.int (resK 1 res))) D A (Sum.elim (fun _ => (xws cI cR ad O K ++ oc cL oa g)) (fun u : Int32 => xws cI cR ad O K ++ oc cL oa (ocu g u.toInt64)) res)) 2 12 A := by
  refine met_of_vx (vx_ofWH (cc := cL_noLoan) (maxL := 5) (ret := (some .int)) (by decide) rfl ?_)
  intro p e s m args below meth c s₁ B hml hv
  obtain ⟨-, hKL, hNC⟩ := hv.2
  obtain ⟨rfl, hw, hO, hA⟩ := x_start ⟨hv.1, hv.2.1⟩
  have hx := B.exec
  have hb := B.bytes
  have hr := B.returns
  have hts := atoms_spec (ws := wsL_noLoan) B.pre
  have hown : s.vm.findClass RL = some m.cls := findClass_of_methodNamed B.named
  have hlocks := B.notSynchronized
  have htab : c.exceptionTable.toList = [{ startPc := 0, endPc := 10, handlerPc := 13, catchType := 21 }] := vx_table (x := yL_noLoan) B (hts _ List.mem_cons_self)
  have hCD := hO.2.2.2.2.2.2.1
  have hl := lv_entry ([.ref (ad 0), .int a1, .int a2, .ref oa]) (n := 5) (Nat.le_of_ble_eq_true rfl)
  rw [lg_entry_eq]
  generalize (lg_sl ([.ref (ad 0), .int a1, .int a2, .ref oa]) ++ List.replicate (5 - (lg_sl ([.ref (ad 0), .int a1, .int a2, .ref oa])).length) Slot.unset).toArray = ls at hl ⊢
  have hl : lv_has ls 5 [(0, .ref (ad 0)), (1, .int a1), (2, .int a2), (3, .ref oa)] := hl
  refine lv_aload_n hx hb dL_noLoan_0 rfl (lv_at hl 3 rfl) ?_
  refine lv_iconst (v := 0) hx hb dL_noLoan_1 (by decide) ?_
  refine lv_aload_n hx hb dL_noLoan_2 rfl (lv_at hl 0 rfl) ?_
  refine lv_iload_n hx hb dL_noLoan_3 rfl (lv_at hl 1 rfl) ?_
  refine lv_iload_n hx hb dL_noLoan_4 rfl (lv_at hl 2 rfl) ?_
  refine w_runX (r := oc cL oa g) (vx_runV (b := ad 0) (As := [.int a1, .int a2]) (rest := [.int 0, .ref oa]) ⟨hx, hb, hml, hown, hts⟩ (c_X5_noLoan (A := AR A (oc cL oa g)) htr hf) (cwV 2 hts gL_noLoan_X5_noLoan rfl rfl rfl (by decide +kernel) ⟨Nat.le_of_ble_eq_true rfl, Nat.le_of_ble_eq_true rfl⟩) ⟨x_blind, va_recv hw.2.1 (f_sub hw).1 (ci := 5) (q0 := 0) rfl xa_0, fun U hU hW => ⟨rfl, f_PX hw hO hA hU hW⟩⟩ rfl rfl hl.1 rfl (lv_room (Nat.le_of_ble_eq_true rfl)) dL_noLoan_5 ⟨Nat.le_of_ble_eq_true rfl, Nat.le_of_ble_eq_true rfl⟩) hw (fun k hk9 H locs q9 ce hw hq1 hq2 hq3 => ?_) (fun u hu H locs hw => ?_)
  · rcases hk k hk9 with rfl
    · subst hk9
      refine vx_catch (name := "java/lang/IndexOutOfBoundsException") (E := "java/lang/IndexOutOfBoundsException") hown [] { startPc := 0, endPc := 10, handlerPc := 13, catchType := 21 } [] htab (fun z h => absurd h List.not_mem_nil) (by decide) (by decide) (hts (.classLink RL 21 "java/lang/IndexOutOfBoundsException") (by decide +kernel)) (va_Nw.use rfl (hCD (.castable "java/lang/IndexOutOfBoundsException" "java/lang/IndexOutOfBoundsException") (by decide +kernel))) hq1 hq2 hq3 ?_
      refine W.eq (g2 := F0 m 13 ls [.ref q9]) rfl ?_
      refine lv_astore (lv' := [(4, .ref q9), (0, .ref (ad 0)), (1, .int a1), (2, .int a2), (3, .ref oa)]) hx hb dL_noLoan_13 hl (by decide) rfl (fun ls hl => ?_)
      refine lv_iconst (v := 1) hx hb dL_noLoan_15 (by decide) ?_
      exact vx_ret (W.widen (k := 2) (n := 12) (Nat.le_of_ble_eq_true rfl) (Nat.le_of_ble_eq_true rfl) (q_iret hx hb hr hlocks hw dL_noLoan_16))
  · subst hu
    refine W.eq (g2 := F0 m 8 ls [.int u, .int 0, .ref oa]) rfl ?_
    refine lv_i2l hx hb dL_noLoan_8 rfl ?_
    refine va_last hx hb hKL hw.1 hw.2.2.1 hw.2.2.2.1 ((xws cI cR ad O K).length + 0) 0 (wg.trans rfl) rfl (inb_in (by decide)) dL_noLoan_9 (fun H locs h1 h2 h3 => ?_)
    rw [wset] at h1 h2
    refine lv_goto (tgt := 17) hx hb dL_noLoan_10 (by decide) ?_
    refine lv_iconst (v := 0) hx hb dL_noLoan_17 (by decide) ?_
    exact vx_ret (W.widen (k := 2) (n := 12) (Nat.le_of_ble_eq_true rfl) (Nat.le_of_ble_eq_true rfl) (q_iret hx hb hr hlocks ⟨h1, hw.2.1, h2, h3, hw.2.2.2.2⟩ dL_noLoan_18))
set_option maxHeartbeats 4000000 in
set_option maxRecDepth 100000 in
theorem cw_whyNot {l : Launch} {D : va_G} {cI cR cL : ClassId} {ad : Nat → Nat} {A : Nat → Prop} {O : XO} {K : RK} {oa : Nat} {g : Nat → Int64} {a1 : Int32} {a2 : Int32} {res : Nat ⊕ Int32} (htr : l.stackTraces = false) (hf : f_X5_whyNot K a1 a2 = some res) (hk : ∀ k, res = .inl k → k = 1) : Met l yL_whyNot wsL_whyNot ({ frames := 8, cells := 1, slots := 6, locals := 138 }) (va_Pc [.ref (ad 0), .int a1, .int a2, .ref oa] (PW D cI cR cL A (xws cI cR ad O K ++ oc cL oa g))) (QV (some (.int (resK 1 res))) D A (Sum.elim (fun _ => (xws cI cR ad O K ++ oc cL oa g)) (fun u : Int32 => xws cI cR ad O K ++ oc cL oa (ocu g u.toInt64)) res)) 1 6 A := by
  refine met_of_vx (vx_ofWH (cc := cL_whyNot) (maxL := 5) (ret := (some .int)) (by decide) rfl ?_)
  intro p e s m args below meth c s₁ B hml hv
  obtain ⟨-, hKL, hNC⟩ := hv.2
  obtain ⟨rfl, hw, hO, hA⟩ := x_start ⟨hv.1, hv.2.1⟩
  have hx := B.exec
  have hb := B.bytes
  have hr := B.returns
  have hts := atoms_spec (ws := wsL_whyNot) B.pre
  have hown : s.vm.findClass RL = some m.cls := findClass_of_methodNamed B.named
  have hlocks := B.notSynchronized
  have htab : c.exceptionTable.toList = [{ startPc := 0, endPc := 10, handlerPc := 13, catchType := 21 }] := vx_table (x := yL_whyNot) B (hts _ List.mem_cons_self)
  have hCD := hO.2.2.2.2.2.2.1
  have hl := lv_entry ([.ref (ad 0), .int a1, .int a2, .ref oa]) (n := 5) (Nat.le_of_ble_eq_true rfl)
  rw [lg_entry_eq]
  generalize (lg_sl ([.ref (ad 0), .int a1, .int a2, .ref oa]) ++ List.replicate (5 - (lg_sl ([.ref (ad 0), .int a1, .int a2, .ref oa])).length) Slot.unset).toArray = ls at hl ⊢
  have hl : lv_has ls 5 [(0, .ref (ad 0)), (1, .int a1), (2, .int a2), (3, .ref oa)] := hl
  refine lv_aload_n hx hb dL_whyNot_0 rfl (lv_at hl 3 rfl) ?_
  refine lv_iconst (v := 0) hx hb dL_whyNot_1 (by decide) ?_
  refine lv_aload_n hx hb dL_whyNot_2 rfl (lv_at hl 0 rfl) ?_
  refine lv_iload_n hx hb dL_whyNot_3 rfl (lv_at hl 1 rfl) ?_
  refine lv_iload_n hx hb dL_whyNot_4 rfl (lv_at hl 2 rfl) ?_
  refine w_runX (r := oc cL oa g) (vx_runV (b := ad 0) (As := [.int a1, .int a2]) (rest := [.int 0, .ref oa]) ⟨hx, hb, hml, hown, hts⟩ (c_X5_whyNot (A := AR A (oc cL oa g)) htr hf) (cwV 2 hts gL_whyNot_X5_whyNot rfl rfl rfl (by decide +kernel) ⟨Nat.le_of_ble_eq_true rfl, Nat.le_of_ble_eq_true rfl⟩) ⟨x_blind, va_recv hw.2.1 (f_sub hw).1 (ci := 5) (q0 := 0) rfl xa_0, fun U hU hW => ⟨rfl, f_PX hw hO hA hU hW⟩⟩ rfl rfl hl.1 rfl (lv_room (Nat.le_of_ble_eq_true rfl)) dL_whyNot_5 ⟨Nat.le_of_ble_eq_true rfl, Nat.le_of_ble_eq_true rfl⟩) hw (fun k hk9 H locs q9 ce hw hq1 hq2 hq3 => ?_) (fun u hu H locs hw => ?_)
  · rcases hk k hk9 with rfl
    · subst hk9
      refine vx_catch (name := "java/lang/IndexOutOfBoundsException") (E := "java/lang/IndexOutOfBoundsException") hown [] { startPc := 0, endPc := 10, handlerPc := 13, catchType := 21 } [] htab (fun z h => absurd h List.not_mem_nil) (by decide) (by decide) (hts (.classLink RL 21 "java/lang/IndexOutOfBoundsException") (by decide +kernel)) (va_Nw.use rfl (hCD (.castable "java/lang/IndexOutOfBoundsException" "java/lang/IndexOutOfBoundsException") (by decide +kernel))) hq1 hq2 hq3 ?_
      refine W.eq (g2 := F0 m 13 ls [.ref q9]) rfl ?_
      refine lv_astore (lv' := [(4, .ref q9), (0, .ref (ad 0)), (1, .int a1), (2, .int a2), (3, .ref oa)]) hx hb dL_whyNot_13 hl (by decide) rfl (fun ls hl => ?_)
      refine lv_iconst (v := 1) hx hb dL_whyNot_15 (by decide) ?_
      exact vx_ret (W.widen (k := 1) (n := 6) (Nat.le_of_ble_eq_true rfl) (Nat.le_of_ble_eq_true rfl) (q_iret hx hb hr hlocks hw dL_whyNot_16))
  · subst hu
    refine W.eq (g2 := F0 m 8 ls [.int u, .int 0, .ref oa]) rfl ?_
    refine lv_i2l hx hb dL_whyNot_8 rfl ?_
    refine va_last hx hb hKL hw.1 hw.2.2.1 hw.2.2.2.1 ((xws cI cR ad O K).length + 0) 0 (wg.trans rfl) rfl (inb_in (by decide)) dL_whyNot_9 (fun H locs h1 h2 h3 => ?_)
    rw [wset] at h1 h2
    refine lv_goto (tgt := 17) hx hb dL_whyNot_10 (by decide) ?_
    refine lv_iconst (v := 0) hx hb dL_whyNot_17 (by decide) ?_
    exact vx_ret (W.widen (k := 1) (n := 6) (Nat.le_of_ble_eq_true rfl) (Nat.le_of_ble_eq_true rfl) (q_iret hx hb hr hlocks ⟨h1, hw.2.1, h2, h3, hw.2.2.2.2⟩ dL_whyNot_18))
set_option maxHeartbeats 4000000 in
set_option maxRecDepth 100000 in
theorem cw_ifOpened {l : Launch} {D : va_G} {cI cR cL : ClassId} {ad : Nat → Nat} {A : Nat → Prop} {O : XO} {K : RK} {oa : Nat} {g : Nat → Int64} {a1 : Int32} {a2 : Int32} {a3 : Int32} {res : Nat ⊕ Int32} (htr : l.stackTraces = false) (hf : f_X5_ifOpened K a1 a2 a3 = some res) (hk : ∀ k, res = .inl k → k = 1 ∨ k = 2) : Met l yL_ifOpened wsL_ifOpened ({ frames := 8, cells := 3, slots := 18, locals := 139 }) (va_Pc [.ref (ad 0), .int a1, .int a2, .int a3, .ref oa] (PW D cI cR cL A (xws cI cR ad O K ++ oc cL oa g))) (QV (some (.int (resK 1 res))) D A (Sum.elim (fun _ => (xws cI cR ad O K ++ oc cL oa g)) (fun u : Int32 => xws cI cR ad O K ++ oc cL oa (ocu g u.toInt64)) res)) 3 18 A := by
  refine met_of_vx (vx_ofWH (cc := cL_ifOpened) (maxL := 6) (ret := (some .int)) (by decide) rfl ?_)
  intro p e s m args below meth c s₁ B hml hv
  obtain ⟨-, hKL, hNC⟩ := hv.2
  obtain ⟨rfl, hw, hO, hA⟩ := x_start ⟨hv.1, hv.2.1⟩
  have hx := B.exec
  have hb := B.bytes
  have hr := B.returns
  have hts := atoms_spec (ws := wsL_ifOpened) B.pre
  have hown : s.vm.findClass RL = some m.cls := findClass_of_methodNamed B.named
  have hlocks := B.notSynchronized
  have htab : c.exceptionTable.toList = [{ startPc := 0, endPc := 12, handlerPc := 15, catchType := 21 }, { startPc := 0, endPc := 12, handlerPc := 19, catchType := 13 }] := vx_table (x := yL_ifOpened) B (hts _ List.mem_cons_self)
  have hCD := hO.2.2.2.2.2.2.1
  have hl := lv_entry ([.ref (ad 0), .int a1, .int a2, .int a3, .ref oa]) (n := 6) (Nat.le_of_ble_eq_true rfl)
  rw [lg_entry_eq]
  generalize (lg_sl ([.ref (ad 0), .int a1, .int a2, .int a3, .ref oa]) ++ List.replicate (6 - (lg_sl ([.ref (ad 0), .int a1, .int a2, .int a3, .ref oa])).length) Slot.unset).toArray = ls at hl ⊢
  have hl : lv_has ls 6 [(0, .ref (ad 0)), (1, .int a1), (2, .int a2), (3, .int a3), (4, .ref oa)] := hl
  refine lv_aload hx hb dL_ifOpened_0 (lv_at hl 4 rfl) ?_
  refine lv_iconst (v := 0) hx hb dL_ifOpened_2 (by decide) ?_
  refine lv_aload_n hx hb dL_ifOpened_3 rfl (lv_at hl 0 rfl) ?_
  refine lv_iload_n hx hb dL_ifOpened_4 rfl (lv_at hl 1 rfl) ?_
  refine lv_iload_n hx hb dL_ifOpened_5 rfl (lv_at hl 2 rfl) ?_
  refine lv_iload_n hx hb dL_ifOpened_6 rfl (lv_at hl 3 rfl) ?_
  refine w_runX (r := oc cL oa g) (vx_runV (b := ad 0) (As := [.int a1, .int a2, .int a3]) (rest := [.int 0, .ref oa]) ⟨hx, hb, hml, hown, hts⟩ (c_X5_ifOpened (A := AR A (oc cL oa g)) htr hf) (cwV 3 hts gL_ifOpened_X5_ifOpened rfl rfl rfl (by decide +kernel) ⟨Nat.le_of_ble_eq_true rfl, Nat.le_of_ble_eq_true rfl⟩) ⟨x_blind, va_recv hw.2.1 (f_sub hw).1 (ci := 5) (q0 := 0) rfl xa_0, fun U hU hW => ⟨rfl, f_PX hw hO hA hU hW⟩⟩ rfl rfl hl.1 rfl (lv_room (Nat.le_of_ble_eq_true rfl)) dL_ifOpened_7 ⟨Nat.le_of_ble_eq_true rfl, Nat.le_of_ble_eq_true rfl⟩) hw (fun k hk9 H locs q9 ce hw hq1 hq2 hq3 => ?_) (fun u hu H locs hw => ?_)
  · rcases hk k hk9 with rfl | rfl
    · subst hk9
      refine vx_catch (name := "java/lang/IndexOutOfBoundsException") (E := "java/lang/IndexOutOfBoundsException") hown [] { startPc := 0, endPc := 12, handlerPc := 15, catchType := 21 } [{ startPc := 0, endPc := 12, handlerPc := 19, catchType := 13 }] htab (fun z h => absurd h List.not_mem_nil) (by decide) (by decide) (hts (.classLink RL 21 "java/lang/IndexOutOfBoundsException") (by decide +kernel)) (va_Nw.use rfl (hCD (.castable "java/lang/IndexOutOfBoundsException" "java/lang/IndexOutOfBoundsException") (by decide +kernel))) hq1 hq2 hq3 ?_
      refine W.eq (g2 := F0 m 15 ls [.ref q9]) rfl ?_
      refine lv_astore (lv' := [(5, .ref q9), (0, .ref (ad 0)), (1, .int a1), (2, .int a2), (3, .int a3), (4, .ref oa)]) hx hb dL_ifOpened_15 hl (by decide) rfl (fun ls hl => ?_)
      refine lv_iconst (v := 1) hx hb dL_ifOpened_17 (by decide) ?_
      exact vx_ret (W.widen (k := 3) (n := 18) (Nat.le_of_ble_eq_true rfl) (Nat.le_of_ble_eq_true rfl) (q_iret hx hb hr hlocks hw dL_ifOpened_18))
    · subst hk9
      refine vx_catch (name := "java/lang/IllegalArgumentException") (E := "java/lang/IllegalArgumentException") hown [{ startPc := 0, endPc := 12, handlerPc := 15, catchType := 21 }] { startPc := 0, endPc := 12, handlerPc := 19, catchType := 13 } [] htab (fun z h => by cases List.mem_singleton.mp h; exact Or.inr ⟨by decide, "java/lang/IndexOutOfBoundsException", hts (.classLink RL 21 "java/lang/IndexOutOfBoundsException") (by decide +kernel), hNC ("java/lang/IllegalArgumentException", "java/lang/IndexOutOfBoundsException") (by decide)⟩) (by decide) (by decide) (hts (.classLink RL 13 "java/lang/IllegalArgumentException") (by decide +kernel)) (va_Nw.use rfl (hCD (.castable "java/lang/IllegalArgumentException" "java/lang/IllegalArgumentException") (by decide +kernel))) hq1 hq2 hq3 ?_
      refine W.eq (g2 := F0 m 19 ls [.ref q9]) rfl ?_
      refine lv_astore (lv' := [(5, .ref q9), (0, .ref (ad 0)), (1, .int a1), (2, .int a2), (3, .int a3), (4, .ref oa)]) hx hb dL_ifOpened_19 hl (by decide) rfl (fun ls hl => ?_)
      refine lv_iconst (v := 2) hx hb dL_ifOpened_21 (by decide) ?_
      exact vx_ret (W.widen (k := 3) (n := 18) (Nat.le_of_ble_eq_true rfl) (Nat.le_of_ble_eq_true rfl) (q_iret hx hb hr hlocks hw dL_ifOpened_22))
  · subst hu
    refine W.eq (g2 := F0 m 10 ls [.int u, .int 0, .ref oa]) rfl ?_
    refine lv_i2l hx hb dL_ifOpened_10 rfl ?_
    refine va_last hx hb hKL hw.1 hw.2.2.1 hw.2.2.2.1 ((xws cI cR ad O K).length + 0) 0 (wg.trans rfl) rfl (inb_in (by decide)) dL_ifOpened_11 (fun H locs h1 h2 h3 => ?_)
    rw [wset] at h1 h2
    refine lv_goto (tgt := 23) hx hb dL_ifOpened_12 (by decide) ?_
    refine lv_iconst (v := 0) hx hb dL_ifOpened_23 (by decide) ?_
    exact vx_ret (W.widen (k := 3) (n := 18) (Nat.le_of_ble_eq_true rfl) (Nat.le_of_ble_eq_true rfl) (q_iret hx hb hr hlocks ⟨h1, hw.2.1, h2, h3, hw.2.2.2.2⟩ dL_ifOpened_24))
set_option maxHeartbeats 4000000 in
set_option maxRecDepth 100000 in
theorem cw_bestGate {l : Launch} {D : va_G} {cI cR cL : ClassId} {ad : Nat → Nat} {A : Nat → Prop} {O : XO} {K : RK} {oa : Nat} {g : Nat → Int64} {a1 : Int32} {res : Nat ⊕ Int32} (htr : l.stackTraces = false) (hf : f_X5_bestGate K a1 = some res) (hk : ∀ k, res = .inl k → k = 1) : Met l yL_bestGate wsL_bestGate ({ frames := 8, cells := 1, slots := 6, locals := 137 }) (va_Pc [.ref (ad 0), .int a1, .ref oa] (PW D cI cR cL A (xws cI cR ad O K ++ oc cL oa g))) (QV (some (.int (resK 1 res))) D A (Sum.elim (fun _ => (xws cI cR ad O K ++ oc cL oa g)) (fun u : Int32 => xws cI cR ad O K ++ oc cL oa (ocu g u.toInt64)) res)) 1 6 A := by
  refine met_of_vx (vx_ofWH (cc := cL_bestGate) (maxL := 4) (ret := (some .int)) (by decide) rfl ?_)
  intro p e s m args below meth c s₁ B hml hv
  obtain ⟨-, hKL, hNC⟩ := hv.2
  obtain ⟨rfl, hw, hO, hA⟩ := x_start ⟨hv.1, hv.2.1⟩
  have hx := B.exec
  have hb := B.bytes
  have hr := B.returns
  have hts := atoms_spec (ws := wsL_bestGate) B.pre
  have hown : s.vm.findClass RL = some m.cls := findClass_of_methodNamed B.named
  have hlocks := B.notSynchronized
  have htab : c.exceptionTable.toList = [{ startPc := 0, endPc := 9, handlerPc := 12, catchType := 21 }] := vx_table (x := yL_bestGate) B (hts _ List.mem_cons_self)
  have hCD := hO.2.2.2.2.2.2.1
  have hl := lv_entry ([.ref (ad 0), .int a1, .ref oa]) (n := 4) (Nat.le_of_ble_eq_true rfl)
  rw [lg_entry_eq]
  generalize (lg_sl ([.ref (ad 0), .int a1, .ref oa]) ++ List.replicate (4 - (lg_sl ([.ref (ad 0), .int a1, .ref oa])).length) Slot.unset).toArray = ls at hl ⊢
  have hl : lv_has ls 4 [(0, .ref (ad 0)), (1, .int a1), (2, .ref oa)] := hl
  refine lv_aload_n hx hb dL_bestGate_0 rfl (lv_at hl 2 rfl) ?_
  refine lv_iconst (v := 0) hx hb dL_bestGate_1 (by decide) ?_
  refine lv_aload_n hx hb dL_bestGate_2 rfl (lv_at hl 0 rfl) ?_
  refine lv_iload_n hx hb dL_bestGate_3 rfl (lv_at hl 1 rfl) ?_
  refine w_runX (r := oc cL oa g) (vx_runV (b := ad 0) (As := [.int a1]) (rest := [.int 0, .ref oa]) ⟨hx, hb, hml, hown, hts⟩ (c_X5_bestGate (A := AR A (oc cL oa g)) htr hf) (cwV 1 hts gL_bestGate_X5_bestGate rfl rfl rfl (by decide +kernel) ⟨Nat.le_of_ble_eq_true rfl, Nat.le_of_ble_eq_true rfl⟩) ⟨x_blind, va_recv hw.2.1 (f_sub hw).1 (ci := 5) (q0 := 0) rfl xa_0, fun U hU hW => ⟨rfl, f_PX hw hO hA hU hW⟩⟩ rfl rfl hl.1 rfl (lv_room (Nat.le_of_ble_eq_true rfl)) dL_bestGate_4 ⟨Nat.le_of_ble_eq_true rfl, Nat.le_of_ble_eq_true rfl⟩) hw (fun k hk9 H locs q9 ce hw hq1 hq2 hq3 => ?_) (fun u hu H locs hw => ?_)
  · rcases hk k hk9 with rfl
    · subst hk9
      refine vx_catch (name := "java/lang/IndexOutOfBoundsException") (E := "java/lang/IndexOutOfBoundsException") hown [] { startPc := 0, endPc := 9, handlerPc := 12, catchType := 21 } [] htab (fun z h => absurd h List.not_mem_nil) (by decide) (by decide) (hts (.classLink RL 21 "java/lang/IndexOutOfBoundsException") (by decide +kernel)) (va_Nw.use rfl (hCD (.castable "java/lang/IndexOutOfBoundsException" "java/lang/IndexOutOfBoundsException") (by decide +kernel))) hq1 hq2 hq3 ?_
      refine W.eq (g2 := F0 m 12 ls [.ref q9]) rfl ?_
      refine lv_astore_n (lv' := [(3, .ref q9), (0, .ref (ad 0)), (1, .int a1), (2, .ref oa)]) hx hb dL_bestGate_12 rfl hl (by decide) rfl (fun ls hl => ?_)
      refine lv_iconst (v := 1) hx hb dL_bestGate_13 (by decide) ?_
      exact vx_ret (W.widen (k := 1) (n := 6) (Nat.le_of_ble_eq_true rfl) (Nat.le_of_ble_eq_true rfl) (q_iret hx hb hr hlocks hw dL_bestGate_14))
  · subst hu
    refine W.eq (g2 := F0 m 7 ls [.int u, .int 0, .ref oa]) rfl ?_
    refine lv_i2l hx hb dL_bestGate_7 rfl ?_
    refine va_last hx hb hKL hw.1 hw.2.2.1 hw.2.2.2.1 ((xws cI cR ad O K).length + 0) 0 (wg.trans rfl) rfl (inb_in (by decide)) dL_bestGate_8 (fun H locs h1 h2 h3 => ?_)
    rw [wset] at h1 h2
    refine lv_goto (tgt := 15) hx hb dL_bestGate_9 (by decide) ?_
    refine lv_iconst (v := 0) hx hb dL_bestGate_15 (by decide) ?_
    exact vx_ret (W.widen (k := 1) (n := 6) (Nat.le_of_ble_eq_true rfl) (Nat.le_of_ble_eq_true rfl) (q_iret hx hb hr hlocks ⟨h1, hw.2.1, h2, h3, hw.2.2.2.2⟩ dL_bestGate_16))
set_option maxHeartbeats 4000000 in
set_option maxRecDepth 100000 in
theorem cw_freeIn {l : Launch} {D : va_G} {cI cR cL : ClassId} {ad : Nat → Nat} {A : Nat → Prop} {O : XO} {K : RK} {oa : Nat} {g : Nat → Int64} {a1 : Int32} {a2 : Int32} {res : Nat ⊕ Int32} (htr : l.stackTraces = false) (hf : f_X5_freeIn K a1 a2 = some res) (hk : ∀ k, res = .inl k → k = 1) : Met l yL_freeIn wsL_freeIn ({ frames := 8, cells := 2, slots := 12, locals := 138 }) (va_Pc [.ref (ad 0), .int a1, .int a2, .ref oa] (PW D cI cR cL A (xws cI cR ad O K ++ oc cL oa g))) (QV (some (.int (resK 1 res))) D A (Sum.elim (fun _ => (xws cI cR ad O K ++ oc cL oa g)) (fun u : Int32 => xws cI cR ad O K ++ oc cL oa (ocu g u.toInt64)) res)) 2 12 A := by
  refine met_of_vx (vx_ofWH (cc := cL_freeIn) (maxL := 5) (ret := (some .int)) (by decide) rfl ?_)
  intro p e s m args below meth c s₁ B hml hv
  obtain ⟨-, hKL, hNC⟩ := hv.2
  obtain ⟨rfl, hw, hO, hA⟩ := x_start ⟨hv.1, hv.2.1⟩
  have hx := B.exec
  have hb := B.bytes
  have hr := B.returns
  have hts := atoms_spec (ws := wsL_freeIn) B.pre
  have hown : s.vm.findClass RL = some m.cls := findClass_of_methodNamed B.named
  have hlocks := B.notSynchronized
  have htab : c.exceptionTable.toList = [{ startPc := 0, endPc := 10, handlerPc := 13, catchType := 21 }] := vx_table (x := yL_freeIn) B (hts _ List.mem_cons_self)
  have hCD := hO.2.2.2.2.2.2.1
  have hl := lv_entry ([.ref (ad 0), .int a1, .int a2, .ref oa]) (n := 5) (Nat.le_of_ble_eq_true rfl)
  rw [lg_entry_eq]
  generalize (lg_sl ([.ref (ad 0), .int a1, .int a2, .ref oa]) ++ List.replicate (5 - (lg_sl ([.ref (ad 0), .int a1, .int a2, .ref oa])).length) Slot.unset).toArray = ls at hl ⊢
  have hl : lv_has ls 5 [(0, .ref (ad 0)), (1, .int a1), (2, .int a2), (3, .ref oa)] := hl
  refine lv_aload_n hx hb dL_freeIn_0 rfl (lv_at hl 3 rfl) ?_
  refine lv_iconst (v := 0) hx hb dL_freeIn_1 (by decide) ?_
  refine lv_aload_n hx hb dL_freeIn_2 rfl (lv_at hl 0 rfl) ?_
  refine lv_iload_n hx hb dL_freeIn_3 rfl (lv_at hl 1 rfl) ?_
  refine lv_iload_n hx hb dL_freeIn_4 rfl (lv_at hl 2 rfl) ?_
  refine w_runX (r := oc cL oa g) (vx_runV (b := ad 0) (As := [.int a1, .int a2]) (rest := [.int 0, .ref oa]) ⟨hx, hb, hml, hown, hts⟩ (c_X5_freeIn (A := AR A (oc cL oa g)) htr hf) (cwV 2 hts gL_freeIn_X5_freeIn rfl rfl rfl (by decide +kernel) ⟨Nat.le_of_ble_eq_true rfl, Nat.le_of_ble_eq_true rfl⟩) ⟨x_blind, va_recv hw.2.1 (f_sub hw).1 (ci := 5) (q0 := 0) rfl xa_0, fun U hU hW => ⟨rfl, f_PX hw hO hA hU hW⟩⟩ rfl rfl hl.1 rfl (lv_room (Nat.le_of_ble_eq_true rfl)) dL_freeIn_5 ⟨Nat.le_of_ble_eq_true rfl, Nat.le_of_ble_eq_true rfl⟩) hw (fun k hk9 H locs q9 ce hw hq1 hq2 hq3 => ?_) (fun u hu H locs hw => ?_)
  · rcases hk k hk9 with rfl
    · subst hk9
      refine vx_catch (name := "java/lang/IndexOutOfBoundsException") (E := "java/lang/IndexOutOfBoundsException") hown [] { startPc := 0, endPc := 10, handlerPc := 13, catchType := 21 } [] htab (fun z h => absurd h List.not_mem_nil) (by decide) (by decide) (hts (.classLink RL 21 "java/lang/IndexOutOfBoundsException") (by decide +kernel)) (va_Nw.use rfl (hCD (.castable "java/lang/IndexOutOfBoundsException" "java/lang/IndexOutOfBoundsException") (by decide +kernel))) hq1 hq2 hq3 ?_
      refine W.eq (g2 := F0 m 13 ls [.ref q9]) rfl ?_
      refine lv_astore (lv' := [(4, .ref q9), (0, .ref (ad 0)), (1, .int a1), (2, .int a2), (3, .ref oa)]) hx hb dL_freeIn_13 hl (by decide) rfl (fun ls hl => ?_)
      refine lv_iconst (v := 1) hx hb dL_freeIn_15 (by decide) ?_
      exact vx_ret (W.widen (k := 2) (n := 12) (Nat.le_of_ble_eq_true rfl) (Nat.le_of_ble_eq_true rfl) (q_iret hx hb hr hlocks hw dL_freeIn_16))
  · subst hu
    refine W.eq (g2 := F0 m 8 ls [.int u, .int 0, .ref oa]) rfl ?_
    refine lv_i2l hx hb dL_freeIn_8 rfl ?_
    refine va_last hx hb hKL hw.1 hw.2.2.1 hw.2.2.2.1 ((xws cI cR ad O K).length + 0) 0 (wg.trans rfl) rfl (inb_in (by decide)) dL_freeIn_9 (fun H locs h1 h2 h3 => ?_)
    rw [wset] at h1 h2
    refine lv_goto (tgt := 17) hx hb dL_freeIn_10 (by decide) ?_
    refine lv_iconst (v := 0) hx hb dL_freeIn_17 (by decide) ?_
    exact vx_ret (W.widen (k := 2) (n := 12) (Nat.le_of_ble_eq_true rfl) (Nat.le_of_ble_eq_true rfl) (q_iret hx hb hr hlocks ⟨h1, hw.2.1, h2, h3, hw.2.2.2.2⟩ dL_freeIn_18))
set_option maxHeartbeats 4000000 in
set_option maxRecDepth 100000 in
theorem cw_set {l : Launch} {D : va_G} {cI cR cL : ClassId} {ad : Nat → Nat} {A : Nat → Prop} {O : XO} {K : RK} {oa : Nat} {g : Nat → Int64} {a1 : Int32} {a2 : Int32} {res : Nat ⊕ (Int32 × XO × RK)} (htr : l.stackTraces = false) (hf : f_X5_set O K a1 a2 = some res) (hk : ∀ k, res = .inl k → k = 1 ∨ k = 2) : Met l yL_set wsL_set ({ frames := 8, cells := 2, slots := 12, locals := 138 }) (va_Pc [.ref (ad 0), .int a1, .int a2, .ref oa] (PW D cI cR cL A (xws cI cR ad O K ++ oc cL oa g))) (QV (some (.int (resK 1 res))) D A (Sum.elim (fun _ => (xws cI cR ad O K ++ oc cL oa g)) (fun u : (Int32 × XO × RK) => xws cI cR ad u.2.1 u.2.2 ++ oc cL oa (ocu g u.1.toInt64)) res)) 2 12 A := by
  refine met_of_vx (vx_ofWH (cc := cL_set) (maxL := 5) (ret := (some .int)) (by decide) rfl ?_)
  intro p e s m args below meth c s₁ B hml hv
  obtain ⟨-, hKL, hNC⟩ := hv.2
  obtain ⟨rfl, hw, hO, hA⟩ := x_start ⟨hv.1, hv.2.1⟩
  have hx := B.exec
  have hb := B.bytes
  have hr := B.returns
  have hts := atoms_spec (ws := wsL_set) B.pre
  have hown : s.vm.findClass RL = some m.cls := findClass_of_methodNamed B.named
  have hlocks := B.notSynchronized
  have htab : c.exceptionTable.toList = [{ startPc := 0, endPc := 10, handlerPc := 13, catchType := 21 }, { startPc := 0, endPc := 10, handlerPc := 17, catchType := 13 }] := vx_table (x := yL_set) B (hts _ List.mem_cons_self)
  have hCD := hO.2.2.2.2.2.2.1
  have hl := lv_entry ([.ref (ad 0), .int a1, .int a2, .ref oa]) (n := 5) (Nat.le_of_ble_eq_true rfl)
  rw [lg_entry_eq]
  generalize (lg_sl ([.ref (ad 0), .int a1, .int a2, .ref oa]) ++ List.replicate (5 - (lg_sl ([.ref (ad 0), .int a1, .int a2, .ref oa])).length) Slot.unset).toArray = ls at hl ⊢
  have hl : lv_has ls 5 [(0, .ref (ad 0)), (1, .int a1), (2, .int a2), (3, .ref oa)] := hl
  refine lv_aload_n hx hb dL_set_0 rfl (lv_at hl 3 rfl) ?_
  refine lv_iconst (v := 0) hx hb dL_set_1 (by decide) ?_
  refine lv_aload_n hx hb dL_set_2 rfl (lv_at hl 0 rfl) ?_
  refine lv_iload_n hx hb dL_set_3 rfl (lv_at hl 1 rfl) ?_
  refine lv_iload_n hx hb dL_set_4 rfl (lv_at hl 2 rfl) ?_
  refine w_runX (r := oc cL oa g) (vx_runV (b := ad 0) (As := [.int a1, .int a2]) (rest := [.int 0, .ref oa]) ⟨hx, hb, hml, hown, hts⟩ (c_X5_set (A := AR A (oc cL oa g)) htr hf) (cwV 2 hts gL_set_X5_set rfl rfl rfl (by decide +kernel) ⟨Nat.le_of_ble_eq_true rfl, Nat.le_of_ble_eq_true rfl⟩) ⟨x_blind, va_recv hw.2.1 (f_sub hw).1 (ci := 5) (q0 := 0) rfl xa_0, fun U hU hW => ⟨rfl, f_PX hw hO hA hU hW⟩⟩ rfl rfl hl.1 rfl (lv_room (Nat.le_of_ble_eq_true rfl)) dL_set_5 ⟨Nat.le_of_ble_eq_true rfl, Nat.le_of_ble_eq_true rfl⟩) hw (fun k hk9 H locs q9 ce hw hq1 hq2 hq3 => ?_) (fun u hu H locs hw => ?_)
  · rcases hk k hk9 with rfl | rfl
    · subst hk9
      refine vx_catch (name := "java/lang/IndexOutOfBoundsException") (E := "java/lang/IndexOutOfBoundsException") hown [] { startPc := 0, endPc := 10, handlerPc := 13, catchType := 21 } [{ startPc := 0, endPc := 10, handlerPc := 17, catchType := 13 }] htab (fun z h => absurd h List.not_mem_nil) (by decide) (by decide) (hts (.classLink RL 21 "java/lang/IndexOutOfBoundsException") (by decide +kernel)) (va_Nw.use rfl (hCD (.castable "java/lang/IndexOutOfBoundsException" "java/lang/IndexOutOfBoundsException") (by decide +kernel))) hq1 hq2 hq3 ?_
      refine W.eq (g2 := F0 m 13 ls [.ref q9]) rfl ?_
      refine lv_astore (lv' := [(4, .ref q9), (0, .ref (ad 0)), (1, .int a1), (2, .int a2), (3, .ref oa)]) hx hb dL_set_13 hl (by decide) rfl (fun ls hl => ?_)
      refine lv_iconst (v := 1) hx hb dL_set_15 (by decide) ?_
      exact vx_ret (W.widen (k := 2) (n := 12) (Nat.le_of_ble_eq_true rfl) (Nat.le_of_ble_eq_true rfl) (q_iret hx hb hr hlocks hw dL_set_16))
    · subst hk9
      refine vx_catch (name := "java/lang/IllegalArgumentException") (E := "java/lang/IllegalArgumentException") hown [{ startPc := 0, endPc := 10, handlerPc := 13, catchType := 21 }] { startPc := 0, endPc := 10, handlerPc := 17, catchType := 13 } [] htab (fun z h => by cases List.mem_singleton.mp h; exact Or.inr ⟨by decide, "java/lang/IndexOutOfBoundsException", hts (.classLink RL 21 "java/lang/IndexOutOfBoundsException") (by decide +kernel), hNC ("java/lang/IllegalArgumentException", "java/lang/IndexOutOfBoundsException") (by decide)⟩) (by decide) (by decide) (hts (.classLink RL 13 "java/lang/IllegalArgumentException") (by decide +kernel)) (va_Nw.use rfl (hCD (.castable "java/lang/IllegalArgumentException" "java/lang/IllegalArgumentException") (by decide +kernel))) hq1 hq2 hq3 ?_
      refine W.eq (g2 := F0 m 17 ls [.ref q9]) rfl ?_
      refine lv_astore (lv' := [(4, .ref q9), (0, .ref (ad 0)), (1, .int a1), (2, .int a2), (3, .ref oa)]) hx hb dL_set_17 hl (by decide) rfl (fun ls hl => ?_)
      refine lv_iconst (v := 2) hx hb dL_set_19 (by decide) ?_
      exact vx_ret (W.widen (k := 2) (n := 12) (Nat.le_of_ble_eq_true rfl) (Nat.le_of_ble_eq_true rfl) (q_iret hx hb hr hlocks hw dL_set_20))
  · subst hu
    refine W.eq (g2 := F0 m 8 ls [.int u.1, .int 0, .ref oa]) rfl ?_
    refine lv_i2l hx hb dL_set_8 rfl ?_
    refine va_last hx hb hKL hw.1 hw.2.2.1 hw.2.2.2.1 ((xws cI cR ad u.2.1 u.2.2).length + 0) 0 (wg.trans rfl) rfl (inb_in (by decide)) dL_set_9 (fun H locs h1 h2 h3 => ?_)
    rw [wset] at h1 h2
    refine lv_goto (tgt := 21) hx hb dL_set_10 (by decide) ?_
    refine lv_iconst (v := 0) hx hb dL_set_21 (by decide) ?_
    exact vx_ret (W.widen (k := 2) (n := 12) (Nat.le_of_ble_eq_true rfl) (Nat.le_of_ble_eq_true rfl) (q_iret hx hb hr hlocks ⟨h1, hw.2.1, h2, h3, hw.2.2.2.2⟩ dL_set_22))
