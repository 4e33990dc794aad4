def f_L_act_b70    (O : XO) (K : RK) (y0 : Int32) (y1 : Int32) (y2 : Int32) (y3 : Int32) : Option (Int32 × XO × RK) := gd (upb y0) (nm (up_ y1 y0) (fun r1 => bnd3 (f_X5_come O K y3 y2 r1) (fun r2 O3 K4 => some (r2, O3, K4))))
def f_L_act_b36    (O : XO) (K : RK) (x2 : Int32) : Option (Int32 × XO × RK) := gd (upb 5) (nm (up_ x2 5) (fun r1 => gd (upb 41) (nm (up_ (x2 >>> (3 &&& 31)) 41) (fun r2 => (if ((x2 >>> (17 &&& 31)) &&& 1) = 0 then f_L_act_b70 O K 100 (x2 >>> (9 &&& 31)) r2 r1 else f_L_act_b70 O K 15 (x2 >>> (9 &&& 31)) r2 r1)))))
def f_L_act_b247    (O : XO) (K : RK) (x2 : Int32) (x5 : Int32) : Option (Int32 × XO × RK) := gd (upb 99) (nm (up_ (x2 >>> (9 &&& 31)) 99) (fun r1 => bnd3 (f_X5_earn O K x5 (1 + r1)) (fun r2 O3 K4 => some (r2, O3, K4))))
def f_L_act_b228    (O : XO) (K : RK) (x2 : Int32) (x3 : Int32) (x5 : Int32) (x8 : Int32) : Option (Int32 × XO × RK) := (if x8 = 0 then f_L_act_b247 O K x2 x5 else (if x3 ≤ 3 then f_L_act_b247 O K x2 x5 else bnd3 (f_X5_leave O K x5) (fun r1 O2 K3 => some (r1, O2, K3))))
def f_L_act_b283    (O : XO) (K : RK) (x5 : Int32) (x6 : Int32) : Option (Int32 × XO × RK) := bnd (f_X5_noLoan K x5 x6) (fun r1 => (if r1 = 0 then bnd3 (f_X5_lend O K x5 x6) (fun r5 O6 K7 => some (r5, O6, K7)) else bnd3 (f_X5_pay O K x5) (fun r2 O3 K4 => some (r2, O3, K4))))
def f_L_act_b349    (O : XO) (K : RK) (x5 : Int32) (y0 : Int32) : Option (Int32 × XO × RK) := (if y0 = 0 then bnd3 (f_X5_pay O K x5) (fun r1 O2 K3 => some (r1, O2, K3)) else bnd3 (f_X5_giveBack O K x5) (fun r4 O5 K6 => some (r4, O5, K6)))
def f_L_act_b348    (O : XO) (K : RK) (x5 : Int32) : Option (Int32 × XO × RK) := f_L_act_b349 O K x5 0
def f_L_act_b372    (O : XO) (K : RK) (x5 : Int32) : Option (Int32 × XO × RK) := bnd (f_X5_whyNot K x5 1) (fun r1 => (if r1 = 0 then bnd3 (f_X5_mask O K x5) (fun r5 O6 K7 => some (r5, O6, K7)) else bnd3 (f_X5_pay O K x5) (fun r2 O3 K4 => some (r2, O3, K4))))
def f_L_act_b464    (O : XO) (K : RK) (x2 : Int32) (x10 : Int32) (x11 : Int32) (y0 : Int32) : Option (Int32 × XO × RK) := gd (upb ((x11 + 1) - y0)) (nm (up_ (x2 >>> (3 &&& 31)) ((x11 + 1) - y0)) (fun r1 => bnd3 (f_X5_set O K x10 (y0 + r1)) (fun r2 O3 K4 => some (r2, O3, K4))))
def f_L_act_b459    (O : XO) (K : RK) (x2 : Int32) (x10 : Int32) (x11 : Int32) : Option (Int32 × XO × RK) := f_L_act_b464 O K x2 x10 x11 1
def f_L_act_b445    (O : XO) (K : RK) (x2 : Int32) (x10 : Int32) (y0 : Int32) : Option (Int32 × XO × RK) := (if x10 = 3 then f_L_act_b459 O K x2 x10 y0 else (if x10 = 4 then f_L_act_b459 O K x2 x10 y0 else f_L_act_b464 O K x2 x10 y0 0))
def f_L_act_b512    (O : XO) (K : RK) (x4 : Int32) (x5 : Int32) : Option (Int32 × XO × RK) := bnd (f_X5_line K x4) (fun r1 => (if r1 ≤ 0 then bnd3 (f_X5_pay O K x5) (fun r2 O3 K4 => some (r2, O3, K4)) else bnd3 (f_X5_open O K x4) (fun r5 O6 K7 => some (r5, O6, K7))))
def f_L_act_b147    (O : XO) (K : RK) (x1 : Int32) (x2 : Int32) (x3 : Int32) (x4 : Int32) (x5 : Int32) (x6 : Int32) (x7 : Int32) (y0 : Int32) : Option (Int32 × XO × RK) := gd (upb 20) (nm (up_ x1 20) (fun r1 => (if r1 = 0 then f_L_act_b228 O K x2 x3 x5 y0 else (if r1 = 1 then f_L_act_b228 O K x2 x3 x5 y0 else (if r1 = 2 then gd (upb 99) (nm (up_ (x2 >>> (9 &&& 31)) 99) (fun r2 => bnd3 (f_X5_earn O K x5 (1 + r2)) (fun r3 O4 K5 => some (r3, O4, K5)))) else (if r1 = 3 then f_L_act_b283 O K x5 x6 else (if r1 = 4 then f_L_act_b283 O K x5 x6 else (if r1 = 5 then f_L_act_b283 O K x5 x6 else (if r1 = 6 then (if x7 < 0 then f_L_act_b348 O K x5 else (if x7 = x5 then f_L_act_b348 O K x5 else bnd (f_X5_guest K x5 7) (fun r6 => bnd (f_X5_guest K x7 7) (fun r7 => (if (r6 + r7) = 0 then f_L_act_b349 O K x5 1 else f_L_act_b348 O K x5))))) else (if r1 = 7 then f_L_act_b372 O K x5 else (if r1 = 8 then f_L_act_b372 O K x5 else (if r1 = 9 then bnd3 (f_X5_night O K) (fun r8 O9 K10 => some (r8, O9, K10)) else (if r1 = 10 then gd (upb 6) (nm (up_ x2 6) (fun r11 => (if r11 = 0 then f_L_act_b445 O K x2 r11 20 else (if r11 = 1 then f_L_act_b445 O K x2 r11 10 else (if r11 = 5 then f_L_act_b445 O K x2 r11 99 else f_L_act_b445 O K x2 r11 9))))) else (if r1 = 11 then (if ((x2 >>> (12 &&& 31)) &&& 3) = 0 then bnd3 (f_X5_restore O K) (fun r15 O16 K17 => some (r15, O16, K17)) else bnd3 (f_X5_pay O K x5) (fun r12 O13 K14 => some (r12, O13, K14))) else (if r1 = 12 then f_L_act_b512 O K x4 x5 else (if r1 = 13 then f_L_act_b512 O K x4 x5 else (if r1 = 14 then f_L_act_b512 O K x4 x5 else (bnd (f_X5_whyNot K x5 0) (fun r18 => (if r18 = 0 then bnd3 (f_X5_queue O K x5 x4) (fun r26 O27 K28 => some (r26, O27, K28)) else bnd (f_X5_line K x4) (fun r19 => (if r19 ≤ 0 then bnd3 (f_X5_night O K) (fun r20 O21 K22 => some (r20, O21, K22)) else bnd3 (f_X5_open O K x4) (fun r23 O24 K25 => some (r23, O24, K25))))))))))))))))))))))))
def f_L_act_b146    (O : XO) (K : RK) (x1 : Int32) (x2 : Int32) (x3 : Int32) (x4 : Int32) (x5 : Int32) (x6 : Int32) (x7 : Int32) : Option (Int32 × XO × RK) := f_L_act_b147 O K x1 x2 x3 x4 x5 x6 x7 0
def f_L_act_b77    (O : XO) (K : RK) (x1 : Int32) (x2 : Int32) (x3 : Int32) (x4 : Int32) : Option (Int32 × XO × RK) := gd (upb x3) (nm (up_ x2 x3) (fun r1 => gd (upb x3) (nm (up_ (x2 >>> (4 &&& 31)) x3) (fun r2 => bnd (f_X5_guest K r1 4) (fun r3 => (if r3 = r1 then bnd (f_X5_guest K r1 10) (fun r4 => (if 0 ≤ r4 then f_L_act_b146 O K x1 x2 x3 x4 r1 r2 r3 else bnd (f_X5_guest K r1 7) (fun r5 => (if r5 = 0 then bnd (f_X5_guest K r1 8) (fun r6 => (if 0 ≤ r6 then f_L_act_b146 O K x1 x2 x3 x4 r1 r2 r3 else f_L_act_b147 O K x1 x2 x3 x4 r1 r2 r3 1)) else f_L_act_b146 O K x1 x2 x3 x4 r1 r2 r3)))) else f_L_act_b146 O K x1 x2 x3 x4 r1 r2 r3))))))
def f_L_act (O : XO) (K : RK)  (a1 : Int32) (a2 : Int32) : Option (Int32 × XO × RK) := bnd (f_X5_count O K 1) (fun r1 => gd (upb 3) (nm (up_ (a2 >>> (8 &&& 31)) 3) (fun r2 => (if r1 < 3 then f_L_act_b36 O K a2 else gd (upb 20) (nm (up_ a1 20) (fun r3 => (if r3 = 0 then (if 10 ≤ r1 then f_L_act_b77 O K a1 a2 r1 r2 else f_L_act_b36 O K a2) else f_L_act_b77 O K a1 a2 r1 r2)))))))
set_option maxHeartbeats 4000000 in
set_option maxRecDepth 100000 in
theorem c_L_act {l : Launch} {D : va_G} {cI cR : ClassId} {ad : Nat → Nat} {A : Nat → Prop} {O : XO} {K : RK} {O' : XO} {K' : RK} {a1 : Int32} {a2 : Int32} {r : Int32}  (hf : f_L_act O K a1 a2 = some (r, O', K')) : MO l yL_act wsL_act 6 134 0 0 D cI cR A [.ref (ad 0), .int a1, .int a2] (xws cI cR ad O K) (some (.int r)) (xws cI cR ad O' K') := by
  refine Met.ofW (cc := cL_act) (maxL := 13) (ret := (some .int)) (by decide) rfl ?_
  intro p e s m args below meth c s₁ B hml hv
  obtain ⟨rfl, hw, hO, hA⟩ := x_start hv
  have hx := B.exec
  have hb := B.bytes
  have hr := B.returns
  have hts := atoms_spec (ws := wsL_act) B.pre
  have hown : s.vm.findClass RL = some m.cls := findClass_of_methodNamed B.named
  have hlocks := B.notSynchronized
  have hl := lv_entry ([.ref (ad 0), .int a1, .int a2]) (n := 13) (Nat.le_of_ble_eq_true rfl)
  rw [lg_entry_eq]
  generalize (lg_sl ([.ref (ad 0), .int a1, .int a2]) ++ List.replicate (13 - (lg_sl ([.ref (ad 0), .int a1, .int a2])).length) Slot.unset).toArray = ls at hl ⊢
  have hl : lv_has ls 13 [(0, .ref (ad 0)), (1, .int a1), (2, .int a2)] := hl
  unfold f_L_act at hf
  obtain ⟨H, eH⟩ : ∃ H, H = s.heap := ⟨_, rfl⟩
  obtain ⟨locs, eL⟩ : ∃ L : List Loc, L = [] := ⟨_, rfl⟩
  rw [← eH, ← eL] at hw ⊢
  clear eH eL
  have B70 : ∀ (O : XO) (K : RK) (y0 : Int32) (y1 : Int32) (y2 : Int32) (y3 : Int32) (H : Heap) (locs : List Loc) (ls : Array Slot), f_L_act_b70 O K y0 y1 y2 y3 = some (r, O', K') → WH D cI cR A (xws cI cR ad O K) s H locs → lv_has ls 13 [] → W p l e (headSpec wsL_act ({ frames := 6, cells := 0, slots := 0, locals := 134 })).room s m ([.ref (ad 0), .int a1, .int a2] : List Value).toArray below meth c H locs 0 0 (MQ below (QV (some (.int r)) D A (xws cI cR ad O' K')) (([.ref (ad 0), .int a1, .int a2] : List Value)).toArray s 0 0 A) (F0 m 70 ls [.int y0, .int y1, .int y2, .int y3, .ref (ad 0)]) := by
    intro O K y0 y1 y2 y3 H locs ls hf hw hl
    unfold f_L_act_b70 at hf
    obtain ⟨hgr1, hf⟩ := gdE hf
    obtain ⟨r1, hr1, hf⟩ := nmE hf
    refine q_callS (rest := [.int y2, .int y3, .ref (ad 0)]) (st1 := [.int r1, .int y2, .int y3, .ref (ad 0)]) [.int y1, .int y0] ⟨hx, hb, hml, hown, hts⟩ (c_L_up hgr1 hr1) (va_cwS 2 hts gL_act_L_up rfl rfl rfl (by decide +kernel) ⟨Nat.le_of_ble_eq_true rfl, Nat.le_of_ble_eq_true rfl⟩) hw rfl hl.1 rfl (Nat.le_of_ble_eq_true rfl) dL_act_70 ⟨Nat.zero_le _, Nat.zero_le _⟩ rfl (fun H locs hw => ?_)
    obtain ⟨r2, O3, K4, hr4, hf⟩ := bnd3S hf
    refine q_callV (rest := []) (st1 := [.int r2]) [.int y3, .int y2, .int r1] ⟨hx, hb, hml, hown, hts⟩ (c_X5_come hr4) (cwV 3 hts gL_act_X5_come rfl rfl rfl (by decide +kernel) ⟨Nat.le_of_ble_eq_true rfl, Nat.le_of_ble_eq_true rfl⟩) hw xa_0 rfl rfl hl.1 rfl (Nat.le_of_ble_eq_true rfl) dL_act_73 ⟨Nat.zero_le _, Nat.zero_le _⟩ rfl (fun H locs hw => ?_)
    cases hf
    exact q_iret hx hb hr hlocks hw dL_act_76
  have B36 : ∀ (O : XO) (K : RK) (x2 : Int32) (H : Heap) (locs : List Loc) (ls : Array Slot), f_L_act_b36 O K x2 = some (r, O', K') → WH D cI cR A (xws cI cR ad O K) s H locs → lv_has ls 13 [(0, .ref (ad 0)), (2, .int x2)] → W p l e (headSpec wsL_act ({ frames := 6, cells := 0, slots := 0, locals := 134 })).room s m ([.ref (ad 0), .int a1, .int a2] : List Value).toArray below meth c H locs 0 0 (MQ below (QV (some (.int r)) D A (xws cI cR ad O' K')) (([.ref (ad 0), .int a1, .int a2] : List Value)).toArray s 0 0 A) (F0 m 36 ls []) := by
    intro O K x2 H locs ls hf hw hl
    unfold f_L_act_b36 at hf
    refine lv_aload_n hx hb dL_act_36 rfl (lv_at hl 0 rfl) ?_
    refine lv_iload_n hx hb dL_act_37 rfl (lv_at hl 1 rfl) ?_
    refine lv_iconst (v := 5) hx hb dL_act_38 (by decide) ?_
    obtain ⟨hgr1, hf⟩ := gdE hf
    obtain ⟨r1, hr1, hf⟩ := nmE hf
    refine q_callS (rest := [.ref (ad 0)]) (st1 := [.int r1, .ref (ad 0)]) [.int x2, .int 5] ⟨hx, hb, hml, hown, hts⟩ (c_L_up hgr1 hr1) (va_cwS 2 hts gL_act_L_up rfl rfl rfl (by decide +kernel) ⟨Nat.le_of_ble_eq_true rfl, Nat.le_of_ble_eq_true rfl⟩) hw rfl hl.1 rfl (Nat.le_of_ble_eq_true rfl) dL_act_39 ⟨Nat.zero_le _, Nat.zero_le _⟩ rfl (fun H locs hw => ?_)
    refine lv_iload_n hx hb dL_act_42 rfl (lv_at hl 1 rfl) ?_
    refine lv_iconst (v := 3) hx hb dL_act_43 (by decide) ?_
    refine lv_ishr hx hb dL_act_44 ?_
    refine lv_bipush (v := 41) hx hb dL_act_45 (by decide) ?_
    obtain ⟨hgr2, hf⟩ := gdE hf
    obtain ⟨r2, hr2, hf⟩ := nmE hf
    refine q_callS (rest := [.int r1, .ref (ad 0)]) (st1 := [.int r2, .int r1, .ref (ad 0)]) [.int (x2 >>> (3 &&& 31)), .int 41] ⟨hx, hb, hml, hown, hts⟩ (c_L_up hgr2 hr2) (va_cwS 2 hts gL_act_L_up rfl rfl rfl (by decide +kernel) ⟨Nat.le_of_ble_eq_true rfl, Nat.le_of_ble_eq_true rfl⟩) hw rfl hl.1 rfl (Nat.le_of_ble_eq_true rfl) dL_act_47 ⟨Nat.zero_le _, Nat.zero_le _⟩ rfl (fun H locs hw => ?_)
    refine lv_iload_n hx hb dL_act_50 rfl (lv_at hl 1 rfl) ?_
    refine lv_bipush (v := 9) hx hb dL_act_51 (by decide) ?_
    refine lv_ishr hx hb dL_act_53 ?_
    refine lv_iload_n hx hb dL_act_54 rfl (lv_at hl 1 rfl) ?_
    refine lv_bipush (v := 17) hx hb dL_act_55 (by decide) ?_
    refine lv_ishr hx hb dL_act_57 ?_
    refine lv_iconst (v := 1) hx hb dL_act_58 (by decide) ?_
    refine lv_iand hx hb dL_act_59 ?_
    refine lv_if_ne (tgt := 68) hx hb dL_act_60 (by decide) (fun hc => ?_) (fun hc => ?_)
    · have hf := iteF hf hc
      refine lv_bipush (v := 15) hx hb dL_act_68 (by decide) ?_
      exact B70 O K 15 (x2 >>> (9 &&& 31)) r2 r1 H locs ls hf hw (lv_sub hl [] rfl)
    · have hf := iteT hf hc
      refine lv_bipush (v := 100) hx hb dL_act_63 (by decide) ?_
      refine lv_goto (tgt := 70) hx hb dL_act_65 (by decide) ?_
      exact B70 O K 100 (x2 >>> (9 &&& 31)) r2 r1 H locs ls hf hw (lv_sub hl [] rfl)
  have B247 : ∀ (O : XO) (K : RK) (x2 : Int32) (x5 : Int32) (H : Heap) (locs : List Loc) (ls : Array Slot), f_L_act_b247 O K x2 x5 = some (r, O', K') → WH D cI cR A (xws cI cR ad O K) s H locs → lv_has ls 13 [(0, .ref (ad 0)), (2, .int x2), (5, .int x5)] → W p l e (headSpec wsL_act ({ frames := 6, cells := 0, slots := 0, locals := 134 })).room s m ([.ref (ad 0), .int a1, .int a2] : List Value).toArray below meth c H locs 0 0 (MQ below (QV (some (.int r)) D A (xws cI cR ad O' K')) (([.ref (ad 0), .int a1, .int a2] : List Value)).toArray s 0 0 A) (F0 m 247 ls []) := by
    intro O K x2 x5 H locs ls hf hw hl
    unfold f_L_act_b247 at hf
    refine lv_aload_n hx hb dL_act_247 rfl (lv_at hl 0 rfl) ?_
    refine lv_iload hx hb dL_act_248 (lv_at hl 2 rfl) ?_
    refine lv_iconst (v := 1) hx hb dL_act_250 (by decide) ?_
    refine lv_iload_n hx hb dL_act_251 rfl (lv_at hl 1 rfl) ?_
    refine lv_bipush (v := 9) hx hb dL_act_252 (by decide) ?_
    refine lv_ishr hx hb dL_act_254 ?_
    refine lv_bipush (v := 99) hx hb dL_act_255 (by decide) ?_
    obtain ⟨hgr1, hf⟩ := gdE hf
    obtain ⟨r1, hr1, hf⟩ := nmE hf
    refine q_callS (rest := [.int 1, .int x5, .ref (ad 0)]) (st1 := [.int r1, .int 1, .int x5, .ref (ad 0)]) [.int (x2 >>> (9 &&& 31)), .int 99] ⟨hx, hb, hml, hown, hts⟩ (c_L_up hgr1 hr1) (va_cwS 2 hts gL_act_L_up rfl rfl rfl (by decide +kernel) ⟨Nat.le_of_ble_eq_true rfl, Nat.le_of_ble_eq_true rfl⟩) hw rfl hl.1 rfl (Nat.le_of_ble_eq_true rfl) dL_act_257 ⟨Nat.zero_le _, Nat.zero_le _⟩ rfl (fun H locs hw => ?_)
    refine lv_iadd hx hb dL_act_260 ?_
    obtain ⟨r2, O3, K4, hr4, hf⟩ := bnd3S hf
    refine q_callV (rest := []) (st1 := [.int r2]) [.int x5, .int (1 + r1)] ⟨hx, hb, hml, hown, hts⟩ (c_X5_earn hr4) (cwV 2 hts gL_act_X5_earn rfl rfl rfl (by decide +kernel) ⟨Nat.le_of_ble_eq_true rfl, Nat.le_of_ble_eq_true rfl⟩) hw xa_0 rfl rfl hl.1 rfl (Nat.le_of_ble_eq_true rfl) dL_act_261 ⟨Nat.zero_le _, Nat.zero_le _⟩ rfl (fun H locs hw => ?_)
    cases hf
    exact q_iret hx hb hr hlocks hw dL_act_264
  have B228 : ∀ (O : XO) (K : RK) (x2 : Int32) (x3 : Int32) (x5 : Int32) (x8 : Int32) (H : Heap) (locs : List Loc) (ls : Array Slot), f_L_act_b228 O K x2 x3 x5 x8 = some (r, O', K') → WH D cI cR A (xws cI cR ad O K) s H locs → lv_has ls 13 [(0, .ref (ad 0)), (2, .int x2), (3, .int x3), (5, .int x5), (8, .int x8)] → W p l e (headSpec wsL_act ({ frames := 6, cells := 0, slots := 0, locals := 134 })).room s m ([.ref (ad 0), .int a1, .int a2] : List Value).toArray below meth c H locs 0 0 (MQ below (QV (some (.int r)) D A (xws cI cR ad O' K')) (([.ref (ad 0), .int a1, .int a2] : List Value)).toArray s 0 0 A) (F0 m 228 ls []) := by
    intro O K x2 x3 x5 x8 H locs ls hf hw hl
    unfold f_L_act_b228 at hf
    refine lv_iload hx hb dL_act_228 (lv_at hl 4 rfl) ?_
    refine lv_if_eq (tgt := 247) hx hb dL_act_230 (by decide) (fun hc => ?_) (fun hc => ?_)
    · have hf := iteT hf hc
      exact B247 O K x2 x5 H locs ls hf hw (lv_sub hl [0, 1, 3] rfl)
    · have hf := iteF hf hc
      refine lv_iload_n hx hb dL_act_233 rfl (lv_at hl 2 rfl) ?_
      refine lv_iconst (v := 3) hx hb dL_act_234 (by decide) ?_
      refine lv_icmp_le (tgt := 247) hx hb dL_act_235 (by decide) (fun hc => ?_) (fun hc => ?_)
      · have hf := iteT hf hc
        exact B247 O K x2 x5 H locs ls hf hw (lv_sub hl [0, 1, 3] rfl)
      · have hf := iteF hf hc
        refine lv_aload_n hx hb dL_act_238 rfl (lv_at hl 0 rfl) ?_
        refine lv_iload hx hb dL_act_239 (lv_at hl 3 rfl) ?_
        obtain ⟨r1, O2, K3, hr3, hf⟩ := bnd3S hf
        refine q_callV (rest := []) (st1 := [.int r1]) [.int x5] ⟨hx, hb, hml, hown, hts⟩ (c_X5_leave hr3) (cwV 1 hts gL_act_X5_leave rfl rfl rfl (by decide +kernel) ⟨Nat.le_of_ble_eq_true rfl, Nat.le_of_ble_eq_true rfl⟩) hw xa_0 rfl rfl hl.1 rfl (Nat.le_of_ble_eq_true rfl) dL_act_241 ⟨Nat.zero_le _, Nat.zero_le _⟩ rfl (fun H locs hw => ?_)
        refine lv_goto (tgt := 264) hx hb dL_act_244 (by decide) ?_
        cases hf
        exact q_iret hx hb hr hlocks hw dL_act_264
  have B283 : ∀ (O : XO) (K : RK) (x5 : Int32) (x6 : Int32) (H : Heap) (locs : List Loc) (ls : Array Slot), f_L_act_b283 O K x5 x6 = some (r, O', K') → WH D cI cR A (xws cI cR ad O K) s H locs → lv_has ls 13 [(0, .ref (ad 0)), (5, .int x5), (6, .int x6)] → W p l e (headSpec wsL_act ({ frames := 6, cells := 0, slots := 0, locals := 134 })).room s m ([.ref (ad 0), .int a1, .int a2] : List Value).toArray below meth c H locs 0 0 (MQ below (QV (some (.int r)) D A (xws cI cR ad O' K')) (([.ref (ad 0), .int a1, .int a2] : List Value)).toArray s 0 0 A) (F0 m 283 ls []) := by
    intro O K x5 x6 H locs ls hf hw hl
    unfold f_L_act_b283 at hf
    refine lv_aload_n hx hb dL_act_283 rfl (lv_at hl 0 rfl) ?_
    refine lv_iload hx hb dL_act_284 (lv_at hl 1 rfl) ?_
    refine lv_iload hx hb dL_act_286 (lv_at hl 2 rfl) ?_
    obtain ⟨r1, hr1, hf⟩ := bndS hf
    refine q_callV (rest := []) (st1 := [.int r1]) [.int x5, .int x6] ⟨hx, hb, hml, hown, hts⟩ (c_X5_noLoan hr1) (cwV 2 hts gL_act_X5_noLoan rfl rfl rfl (by decide +kernel) ⟨Nat.le_of_ble_eq_true rfl, Nat.le_of_ble_eq_true rfl⟩) hw xa_0 rfl rfl hl.1 rfl (Nat.le_of_ble_eq_true rfl) dL_act_288 ⟨Nat.zero_le _, Nat.zero_le _⟩ rfl (fun H locs hw => ?_)
    refine lv_if_ne (tgt := 305) hx hb dL_act_291 (by decide) (fun hc => ?_) (fun hc => ?_)
    · have hf := iteF hf hc
      refine lv_aload_n hx hb dL_act_305 rfl (lv_at hl 0 rfl) ?_
      refine lv_iload hx hb dL_act_306 (lv_at hl 1 rfl) ?_
      obtain ⟨r2, O3, K4, hr4, hf⟩ := bnd3S hf
      refine q_callV (rest := []) (st1 := [.int r2]) [.int x5] ⟨hx, hb, hml, hown, hts⟩ (c_X5_pay hr4) (cwV 1 hts gL_act_X5_pay rfl rfl rfl (by decide +kernel) ⟨Nat.le_of_ble_eq_true rfl, Nat.le_of_ble_eq_true rfl⟩) hw xa_0 rfl rfl hl.1 rfl (Nat.le_of_ble_eq_true rfl) dL_act_308 ⟨Nat.zero_le _, Nat.zero_le _⟩ rfl (fun H locs hw => ?_)
      cases hf
      exact q_iret hx hb hr hlocks hw dL_act_311
    · have hf := iteT hf hc
      refine lv_aload_n hx hb dL_act_294 rfl (lv_at hl 0 rfl) ?_
      refine lv_iload hx hb dL_act_295 (lv_at hl 1 rfl) ?_
      refine lv_iload hx hb dL_act_297 (lv_at hl 2 rfl) ?_
      obtain ⟨r5, O6, K7, hr7, hf⟩ := bnd3S hf
      refine q_callV (rest := []) (st1 := [.int r5]) [.int x5, .int x6] ⟨hx, hb, hml, hown, hts⟩ (c_X5_lend hr7) (cwV 2 hts gL_act_X5_lend rfl rfl rfl (by decide +kernel) ⟨Nat.le_of_ble_eq_true rfl, Nat.le_of_ble_eq_true rfl⟩) hw xa_0 rfl rfl hl.1 rfl (Nat.le_of_ble_eq_true rfl) dL_act_299 ⟨Nat.zero_le _, Nat.zero_le _⟩ rfl (fun H locs hw => ?_)
      refine lv_goto (tgt := 311) hx hb dL_act_302 (by decide) ?_
      cases hf
      exact q_iret hx hb hr hlocks hw dL_act_311
  have B349 : ∀ (O : XO) (K : RK) (x5 : Int32) (y0 : Int32) (H : Heap) (locs : List Loc) (ls : Array Slot), f_L_act_b349 O K x5 y0 = some (r, O', K') → WH D cI cR A (xws cI cR ad O K) s H locs → lv_has ls 13 [(0, .ref (ad 0)), (5, .int x5)] → W p l e (headSpec wsL_act ({ frames := 6, cells := 0, slots := 0, locals := 134 })).room s m ([.ref (ad 0), .int a1, .int a2] : List Value).toArray below meth c H locs 0 0 (MQ below (QV (some (.int r)) D A (xws cI cR ad O' K')) (([.ref (ad 0), .int a1, .int a2] : List Value)).toArray s 0 0 A) (F0 m 349 ls [.int y0]) := by
    intro O K x5 y0 H locs ls hf hw hl
    unfold f_L_act_b349 at hf
    refine lv_istore (lv' := [(9, .int y0), (0, .ref (ad 0)), (5, .int x5)]) hx hb dL_act_349 hl (by decide) rfl (fun ls hl => ?_)
    refine lv_iload hx hb dL_act_351 (lv_at hl 0 rfl) ?_
    refine lv_if_eq (tgt := 365) hx hb dL_act_353 (by decide) (fun hc => ?_) (fun hc => ?_)
    · have hf := iteT hf hc
      refine lv_aload_n hx hb dL_act_365 rfl (lv_at hl 1 rfl) ?_
      refine lv_iload hx hb dL_act_366 (lv_at hl 2 rfl) ?_
      obtain ⟨r1, O2, K3, hr3, hf⟩ := bnd3S hf
      refine q_callV (rest := []) (st1 := [.int r1]) [.int x5] ⟨hx, hb, hml, hown, hts⟩ (c_X5_pay hr3) (cwV 1 hts gL_act_X5_pay rfl rfl rfl (by decide +kernel) ⟨Nat.le_of_ble_eq_true rfl, Nat.le_of_ble_eq_true rfl⟩) hw xa_0 rfl rfl hl.1 rfl (Nat.le_of_ble_eq_true rfl) dL_act_368 ⟨Nat.zero_le _, Nat.zero_le _⟩ rfl (fun H locs hw => ?_)
      cases hf
      exact q_iret hx hb hr hlocks hw dL_act_371
    · have hf := iteF hf hc
      refine lv_aload_n hx hb dL_act_356 rfl (lv_at hl 1 rfl) ?_
      refine lv_iload hx hb dL_act_357 (lv_at hl 2 rfl) ?_
      obtain ⟨r4, O5, K6, hr6, hf⟩ := bnd3S hf
      refine q_callV (rest := []) (st1 := [.int r4]) [.int x5] ⟨hx, hb, hml, hown, hts⟩ (c_X5_giveBack hr6) (cwV 1 hts gL_act_X5_giveBack rfl rfl rfl (by decide +kernel) ⟨Nat.le_of_ble_eq_true rfl, Nat.le_of_ble_eq_true rfl⟩) hw xa_0 rfl rfl hl.1 rfl (Nat.le_of_ble_eq_true rfl) dL_act_359 ⟨Nat.zero_le _, Nat.zero_le _⟩ rfl (fun H locs hw => ?_)
      refine lv_goto (tgt := 371) hx hb dL_act_362 (by decide) ?_
      cases hf
      exact q_iret hx hb hr hlocks hw dL_act_371
  have B348 : ∀ (O : XO) (K : RK) (x5 : Int32) (H : Heap) (locs : List Loc) (ls : Array Slot), f_L_act_b348 O K x5 = some (r, O', K') → WH D cI cR A (xws cI cR ad O K) s H locs → lv_has ls 13 [(0, .ref (ad 0)), (5, .int x5)] → W p l e (headSpec wsL_act ({ frames := 6, cells := 0, slots := 0, locals := 134 })).room s m ([.ref (ad 0), .int a1, .int a2] : List Value).toArray below meth c H locs 0 0 (MQ below (QV (some (.int r)) D A (xws cI cR ad O' K')) (([.ref (ad 0), .int a1, .int a2] : List Value)).toArray s 0 0 A) (F0 m 348 ls []) := by
    intro O K x5 H locs ls hf hw hl
    unfold f_L_act_b348 at hf
    refine lv_iconst (v := 0) hx hb dL_act_348 (by decide) ?_
    exact B349 O K x5 0 H locs ls hf hw (lv_sub hl [0, 1] rfl)
  have B372 : ∀ (O : XO) (K : RK) (x5 : Int32) (H : Heap) (locs : List Loc) (ls : Array Slot), f_L_act_b372 O K x5 = some (r, O', K') → WH D cI cR A (xws cI cR ad O K) s H locs → lv_has ls 13 [(0, .ref (ad 0)), (5, .int x5)] → W p l e (headSpec wsL_act ({ frames := 6, cells := 0, slots := 0, locals := 134 })).room s m ([.ref (ad 0), .int a1, .int a2] : List Value).toArray below meth c H locs 0 0 (MQ below (QV (some (.int r)) D A (xws cI cR ad O' K')) (([.ref (ad 0), .int a1, .int a2] : List Value)).toArray s 0 0 A) (F0 m 372 ls []) := by
    intro O K x5 H locs ls hf hw hl
    unfold f_L_act_b372 at hf
    refine lv_aload_n hx hb dL_act_372 rfl (lv_at hl 0 rfl) ?_
    refine lv_iload hx hb dL_act_373 (lv_at hl 1 rfl) ?_
    refine lv_iconst (v := 1) hx hb dL_act_375 (by decide) ?_
    obtain ⟨r1, hr1, hf⟩ := bndS hf
    refine q_callV (rest := []) (st1 := [.int r1]) [.int x5, .int 1] ⟨hx, hb, hml, hown, hts⟩ (c_X5_whyNot hr1) (cwV 2 hts gL_act_X5_whyNot rfl rfl rfl (by decide +kernel) ⟨Nat.le_of_ble_eq_true rfl, Nat.le_of_ble_eq_true rfl⟩) hw xa_0 rfl rfl hl.1 rfl (Nat.le_of_ble_eq_true rfl) dL_act_376 ⟨Nat.zero_le _, Nat.zero_le _⟩ rfl (fun H locs hw => ?_)
    refine lv_if_ne (tgt := 391) hx hb dL_act_379 (by decide) (fun hc => ?_) (fun hc => ?_)
    · have hf := iteF hf hc
      refine lv_aload_n hx hb dL_act_391 rfl (lv_at hl 0 rfl) ?_
      refine lv_iload hx hb dL_act_392 (lv_at hl 1 rfl) ?_
      obtain ⟨r2, O3, K4, hr4, hf⟩ := bnd3S hf
      refine q_callV (rest := []) (st1 := [.int r2]) [.int x5] ⟨hx, hb, hml, hown, hts⟩ (c_X5_pay hr4) (cwV 1 hts gL_act_X5_pay rfl rfl rfl (by decide +kernel) ⟨Nat.le_of_ble_eq_true rfl, Nat.le_of_ble_eq_true rfl⟩) hw xa_0 rfl rfl hl.1 rfl (Nat.le_of_ble_eq_true rfl) dL_act_394 ⟨Nat.zero_le _, Nat.zero_le _⟩ rfl (fun H locs hw => ?_)
      cases hf
      exact q_iret hx hb hr hlocks hw dL_act_397
    · have hf := iteT hf hc
      refine lv_aload_n hx hb dL_act_382 rfl (lv_at hl 0 rfl) ?_
      refine lv_iload hx hb dL_act_383 (lv_at hl 1 rfl) ?_
      obtain ⟨r5, O6, K7, hr7, hf⟩ := bnd3S hf
      refine q_callV (rest := []) (st1 := [.int r5]) [.int x5] ⟨hx, hb, hml, hown, hts⟩ (c_X5_mask hr7) (cwV 1 hts gL_act_X5_mask rfl rfl rfl (by decide +kernel) ⟨Nat.le_of_ble_eq_true rfl, Nat.le_of_ble_eq_true rfl⟩) hw xa_0 rfl rfl hl.1 rfl (Nat.le_of_ble_eq_true rfl) dL_act_385 ⟨Nat.zero_le _, Nat.zero_le _⟩ rfl (fun H locs hw => ?_)
      refine lv_goto (tgt := 397) hx hb dL_act_388 (by decide) ?_
      cases hf
      exact q_iret hx hb hr hlocks hw dL_act_397
  have B464 : ∀ (O : XO) (K : RK) (x2 : Int32) (x10 : Int32) (x11 : Int32) (y0 : Int32) (H : Heap) (locs : List Loc) (ls : Array Slot), f_L_act_b464 O K x2 x10 x11 y0 = some (r, O', K') → WH D cI cR A (xws cI cR ad O K) s H locs → lv_has ls 13 [(0, .ref (ad 0)), (2, .int x2), (10, .int x10), (11, .int x11)] → W p l e (headSpec wsL_act ({ frames := 6, cells := 0, slots := 0, locals := 134 })).room s m ([.ref (ad 0), .int a1, .int a2] : List Value).toArray below meth c H locs 0 0 (MQ below (QV (some (.int r)) D A (xws cI cR ad O' K')) (([.ref (ad 0), .int a1, .int a2] : List Value)).toArray s 0 0 A) (F0 m 464 ls [.int y0]) := by
    intro O K x2 x10 x11 y0 H locs ls hf hw hl
    unfold f_L_act_b464 at hf
    refine lv_istore (lv' := [(12, .int y0), (0, .ref (ad 0)), (2, .int x2), (10, .int x10), (11, .int x11)]) hx hb dL_act_464 hl (by decide) rfl (fun ls hl => ?_)
    refine lv_aload_n hx hb dL_act_466 rfl (lv_at hl 1 rfl) ?_
    refine lv_iload hx hb dL_act_467 (lv_at hl 3 rfl) ?_
    refine lv_iload hx hb dL_act_469 (lv_at hl 0 rfl) ?_
    refine lv_iload_n hx hb dL_act_471 rfl (lv_at hl 2 rfl) ?_
    refine lv_iconst (v := 3) hx hb dL_act_472 (by decide) ?_
    refine lv_ishr hx hb dL_act_473 ?_
    refine lv_iload hx hb dL_act_474 (lv_at hl 4 rfl) ?_
    refine lv_iconst (v := 1) hx hb dL_act_476 (by decide) ?_
    refine lv_iadd hx hb dL_act_477 ?_
    refine lv_iload hx hb dL_act_478 (lv_at hl 0 rfl) ?_
    refine lv_isub hx hb dL_act_480 ?_
    obtain ⟨hgr1, hf⟩ := gdE hf
    obtain ⟨r1, hr1, hf⟩ := nmE hf
    refine q_callS (rest := [.int y0, .int x10, .ref (ad 0)]) (st1 := [.int r1, .int y0, .int x10, .ref (ad 0)]) [.int (x2 >>> (3 &&& 31)), .int ((x11 + 1) - y0)] ⟨hx, hb, hml, hown, hts⟩ (c_L_up hgr1 hr1) (va_cwS 2 hts gL_act_L_up rfl rfl rfl (by decide +kernel) ⟨Nat.le_of_ble_eq_true rfl, Nat.le_of_ble_eq_true rfl⟩) hw rfl hl.1 rfl (Nat.le_of_ble_eq_true rfl) dL_act_481 ⟨Nat.zero_le _, Nat.zero_le _⟩ rfl (fun H locs hw => ?_)
    refine lv_iadd hx hb dL_act_484 ?_
    obtain ⟨r2, O3, K4, hr4, hf⟩ := bnd3S hf
    refine q_callVO hO hA (rest := []) (st1 := [.int r2]) [.int x10, .int (y0 + r1)] ⟨hx, hb, hml, hown, hts⟩ (c_X5_set hr4) (cwV 2 hts gL_act_X5_set rfl rfl rfl (by decide +kernel) ⟨Nat.le_of_ble_eq_true rfl, Nat.le_of_ble_eq_true rfl⟩) hw xa_0 rfl rfl hl.1 rfl (Nat.le_of_ble_eq_true rfl) dL_act_485 ⟨Nat.zero_le _, Nat.zero_le _⟩ rfl (fun H locs hw => ?_)
    cases hf
    exact q_iret hx hb hr hlocks hw dL_act_488
  have B459 : ∀ (O : XO) (K : RK) (x2 : Int32) (x10 : Int32) (x11 : Int32) (H : Heap) (locs : List Loc) (ls : Array Slot), f_L_act_b459 O K x2 x10 x11 = some (r, O', K') → WH D cI cR A (xws cI cR ad O K) s H locs → lv_has ls 13 [(0, .ref (ad 0)), (2, .int x2), (10, .int x10), (11, .int x11)] → W p l e (headSpec wsL_act ({ frames := 6, cells := 0, slots := 0, locals := 134 })).room s m ([.ref (ad 0), .int a1, .int a2] : List Value).toArray below meth c H locs 0 0 (MQ below (QV (some (.int r)) D A (xws cI cR ad O' K')) (([.ref (ad 0), .int a1, .int a2] : List Value)).toArray s 0 0 A) (F0 m 459 ls []) := by
    intro O K x2 x10 x11 H locs ls hf hw hl
    unfold f_L_act_b459 at hf
    refine lv_iconst (v := 1) hx hb dL_act_459 (by decide) ?_
    refine lv_goto (tgt := 464) hx hb dL_act_460 (by decide) ?_
    exact B464 O K x2 x10 x11 1 H locs ls hf hw (lv_sub hl [0, 1, 2, 3] rfl)
  have B445 : ∀ (O : XO) (K : RK) (x2 : Int32) (x10 : Int32) (y0 : Int32) (H : Heap) (locs : List Loc) (ls : Array Slot), f_L_act_b445 O K x2 x10 y0 = some (r, O', K') → WH D cI cR A (xws cI cR ad O K) s H locs → lv_has ls 13 [(0, .ref (ad 0)), (2, .int x2), (10, .int x10)] → W p l e (headSpec wsL_act ({ frames := 6, cells := 0, slots := 0, locals := 134 })).room s m ([.ref (ad 0), .int a1, .int a2] : List Value).toArray below meth c H locs 0 0 (MQ below (QV (some (.int r)) D A (xws cI cR ad O' K')) (([.ref (ad 0), .int a1, .int a2] : List Value)).toArray s 0 0 A) (F0 m 445 ls [.int y0]) := by
    intro O K x2 x10 y0 H locs ls hf hw hl
    unfold f_L_act_b445 at hf
    refine lv_istore (lv' := [(11, .int y0), (0, .ref (ad 0)), (2, .int x2), (10, .int x10)]) hx hb dL_act_445 hl (by decide) rfl (fun ls hl => ?_)
    refine lv_iload hx hb dL_act_447 (lv_at hl 3 rfl) ?_
    refine lv_iconst (v := 3) hx hb dL_act_449 (by decide) ?_
    refine lv_icmp_eq (tgt := 459) hx hb dL_act_450 (by decide) (fun hc => ?_) (fun hc => ?_)
    · have hf := iteT hf hc
      exact B459 O K x2 x10 y0 H locs ls hf hw (lv_sub hl [1, 2, 3, 0] rfl)
    · have hf := iteF hf hc
      refine lv_iload hx hb dL_act_453 (lv_at hl 3 rfl) ?_
      refine lv_iconst (v := 4) hx hb dL_act_455 (by decide) ?_
      refine lv_icmp_ne (tgt := 463) hx hb dL_act_456 (by decide) (fun hc => ?_) (fun hc => ?_)
      · have hf := iteF hf hc
        refine lv_iconst (v := 0) hx hb dL_act_463 (by decide) ?_
        exact B464 O K x2 x10 y0 0 H locs ls hf hw (lv_sub hl [1, 2, 3, 0] rfl)
      · have hf := iteT hf hc
        exact B459 O K x2 x10 y0 H locs ls hf hw (lv_sub hl [1, 2, 3, 0] rfl)
  have B512 : ∀ (O : XO) (K : RK) (x4 : Int32) (x5 : Int32) (H : Heap) (locs : List Loc) (ls : Array Slot), f_L_act_b512 O K x4 x5 = some (r, O', K') → WH D cI cR A (xws cI cR ad O K) s H locs → lv_has ls 13 [(0, .ref (ad 0)), (4, .int x4), (5, .int x5)] → W p l e (headSpec wsL_act ({ frames := 6, cells := 0, slots := 0, locals := 134 })).room s m ([.ref (ad 0), .int a1, .int a2] : List Value).toArray below meth c H locs 0 0 (MQ below (QV (some (.int r)) D A (xws cI cR ad O' K')) (([.ref (ad 0), .int a1, .int a2] : List Value)).toArray s 0 0 A) (F0 m 512 ls []) := by
    intro O K x4 x5 H locs ls hf hw hl
    unfold f_L_act_b512 at hf
    refine lv_aload_n hx hb dL_act_512 rfl (lv_at hl 0 rfl) ?_
    refine lv_iload hx hb dL_act_513 (lv_at hl 1 rfl) ?_
    obtain ⟨r1, hr1, hf⟩ := bndS hf
    refine q_callV (rest := []) (st1 := [.int r1]) [.int x4] ⟨hx, hb, hml, hown, hts⟩ (c_X5_line hr1) (cwV 1 hts gL_act_X5_line rfl rfl rfl (by decide +kernel) ⟨Nat.le_of_ble_eq_true rfl, Nat.le_of_ble_eq_true rfl⟩) hw xa_0 rfl rfl hl.1 rfl (Nat.le_of_ble_eq_true rfl) dL_act_515 ⟨Nat.zero_le _, Nat.zero_le _⟩ rfl (fun H locs hw => ?_)
    refine lv_if_le (tgt := 530) hx hb dL_act_518 (by decide) (fun hc => ?_) (fun hc => ?_)
    · have hf := iteT hf hc
      refine lv_aload_n hx hb dL_act_530 rfl (lv_at hl 0 rfl) ?_
      refine lv_iload hx hb dL_act_531 (lv_at hl 2 rfl) ?_
      obtain ⟨r2, O3, K4, hr4, hf⟩ := bnd3S hf
      refine q_callV (rest := []) (st1 := [.int r2]) [.int x5] ⟨hx, hb, hml, hown, hts⟩ (c_X5_pay hr4) (cwV 1 hts gL_act_X5_pay rfl rfl rfl (by decide +kernel) ⟨Nat.le_of_ble_eq_true rfl, Nat.le_of_ble_eq_true rfl⟩) hw xa_0 rfl rfl hl.1 rfl (Nat.le_of_ble_eq_true rfl) dL_act_533 ⟨Nat.zero_le _, Nat.zero_le _⟩ rfl (fun H locs hw => ?_)
      cases hf
      exact q_iret hx hb hr hlocks hw dL_act_536
    · have hf := iteF hf hc
      refine lv_aload_n hx hb dL_act_521 rfl (lv_at hl 0 rfl) ?_
      refine lv_iload hx hb dL_act_522 (lv_at hl 1 rfl) ?_
      obtain ⟨r5, O6, K7, hr7, hf⟩ := bnd3S hf
      refine q_callV (rest := []) (st1 := [.int r5]) [.int x4] ⟨hx, hb, hml, hown, hts⟩ (c_X5_open hr7) (cwV 1 hts gL_act_X5_open rfl rfl rfl (by decide +kernel) ⟨Nat.le_of_ble_eq_true rfl, Nat.le_of_ble_eq_true rfl⟩) hw xa_0 rfl rfl hl.1 rfl (Nat.le_of_ble_eq_true rfl) dL_act_524 ⟨Nat.zero_le _, Nat.zero_le _⟩ rfl (fun H locs hw => ?_)
      refine lv_goto (tgt := 536) hx hb dL_act_527 (by decide) ?_
      cases hf
      exact q_iret hx hb hr hlocks hw dL_act_536
  have B147 : ∀ (O : XO) (K : RK) (x1 : Int32) (x2 : Int32) (x3 : Int32) (x4 : Int32) (x5 : Int32) (x6 : Int32) (x7 : Int32) (y0 : Int32) (H : Heap) (locs : List Loc) (ls : Array Slot), f_L_act_b147 O K x1 x2 x3 x4 x5 x6 x7 y0 = some (r, O', K') → WH D cI cR A (xws cI cR ad O K) s H locs → lv_has ls 13 [(0, .ref (ad 0)), (1, .int x1), (2, .int x2), (3, .int x3), (4, .int x4), (5, .int x5), (6, .int x6), (7, .int x7)] → W p l e (headSpec wsL_act ({ frames := 6, cells := 0, slots := 0, locals := 134 })).room s m ([.ref (ad 0), .int a1, .int a2] : List Value).toArray below meth c H locs 0 0 (MQ below (QV (some (.int r)) D A (xws cI cR ad O' K')) (([.ref (ad 0), .int a1, .int a2] : List Value)).toArray s 0 0 A) (F0 m 147 ls [.int y0]) := by
    intro O K x1 x2 x3 x4 x5 x6 x7 y0 H locs ls hf hw hl
    unfold f_L_act_b147 at hf
    refine lv_istore (lv' := [(8, .int y0), (0, .ref (ad 0)), (1, .int x1), (2, .int x2), (3, .int x3), (4, .int x4), (5, .int x5), (6, .int x6), (7, .int x7)]) hx hb dL_act_147 hl (by decide) rfl (fun ls hl => ?_)
    refine lv_iload_n hx hb dL_act_149 rfl (lv_at hl 2 rfl) ?_
    refine lv_bipush (v := 20) hx hb dL_act_150 (by decide) ?_
    obtain ⟨hgr1, hf⟩ := gdE hf
    obtain ⟨r1, hr1, hf⟩ := nmE hf
    refine q_callS (rest := []) (st1 := [.int r1]) [.int x1, .int 20] ⟨hx, hb, hml, hown, hts⟩ (c_L_up hgr1 hr1) (va_cwS 2 hts gL_act_L_up rfl rfl rfl (by decide +kernel) ⟨Nat.le_of_ble_eq_true rfl, Nat.le_of_ble_eq_true rfl⟩) hw rfl hl.1 rfl (Nat.le_of_ble_eq_true rfl) dL_act_152 ⟨Nat.zero_le _, Nat.zero_le _⟩ rfl (fun H locs hw => ?_)
    by_cases hc0 : r1 = 0
    · have hf := iteT hf hc0
      refine lv_tableIn (tgt := 228) hx hb dL_act_155 (by rw [hc0]; decide) (by rw [hc0]; decide) (by rw [hc0]; rfl) (by decide) ?_
      exact B228 O K x2 x3 x5 y0 H locs ls hf hw (lv_sub hl [1, 3, 4, 6, 0] rfl)
    replace hf := iteF hf hc0
    by_cases hc1 : r1 = 1
    · have hf := iteT hf hc1
      refine lv_tableIn (tgt := 228) hx hb dL_act_155 (by rw [hc1]; decide) (by rw [hc1]; decide) (by rw [hc1]; rfl) (by decide) ?_
      exact B228 O K x2 x3 x5 y0 H locs ls hf hw (lv_sub hl [1, 3, 4, 6, 0] rfl)
    replace hf := iteF hf hc1
    by_cases hc2 : r1 = 2
    · have hf := iteT hf hc2
      refine lv_tableIn (tgt := 265) hx hb dL_act_155 (by rw [hc2]; decide) (by rw [hc2]; decide) (by rw [hc2]; rfl) (by decide) ?_
      refine lv_aload_n hx hb dL_act_265 rfl (lv_at hl 1 rfl) ?_
      refine lv_iload hx hb dL_act_266 (lv_at hl 6 rfl) ?_
      refine lv_iconst (v := 1) hx hb dL_act_268 (by decide) ?_
      refine lv_iload_n hx hb dL_act_269 rfl (lv_at hl 3 rfl) ?_
      refine lv_bipush (v := 9) hx hb dL_act_270 (by decide) ?_
      refine lv_ishr hx hb dL_act_272 ?_
      refine lv_bipush (v := 99) hx hb dL_act_273 (by decide) ?_
      obtain ⟨hgr2, hf⟩ := gdE hf
      obtain ⟨r2, hr2, hf⟩ := nmE hf
      refine q_callS (rest := [.int 1, .int x5, .ref (ad 0)]) (st1 := [.int r2, .int 1, .int x5, .ref (ad 0)]) [.int (x2 >>> (9 &&& 31)), .int 99] ⟨hx, hb, hml, hown, hts⟩ (c_L_up hgr2 hr2) (va_cwS 2 hts gL_act_L_up rfl rfl rfl (by decide +kernel) ⟨Nat.le_of_ble_eq_true rfl, Nat.le_of_ble_eq_true rfl⟩) hw rfl hl.1 rfl (Nat.le_of_ble_eq_true rfl) dL_act_275 ⟨Nat.zero_le _, Nat.zero_le _⟩ rfl (fun H locs hw => ?_)
      refine lv_iadd hx hb dL_act_278 ?_
      obtain ⟨r3, O4, K5, hr5, hf⟩ := bnd3S hf
      refine q_callV (rest := []) (st1 := [.int r3]) [.int x5, .int (1 + r2)] ⟨hx, hb, hml, hown, hts⟩ (c_X5_earn hr5) (cwV 2 hts gL_act_X5_earn rfl rfl rfl (by decide +kernel) ⟨Nat.le_of_ble_eq_true rfl, Nat.le_of_ble_eq_true rfl⟩) hw xa_0 rfl rfl hl.1 rfl (Nat.le_of_ble_eq_true rfl) dL_act_279 ⟨Nat.zero_le _, Nat.zero_le _⟩ rfl (fun H locs hw => ?_)
      cases hf
      exact q_iret hx hb hr hlocks hw dL_act_282
    replace hf := iteF hf hc2
    by_cases hc3 : r1 = 3
    · have hf := iteT hf hc3
      refine lv_tableIn (tgt := 283) hx hb dL_act_155 (by rw [hc3]; decide) (by rw [hc3]; decide) (by rw [hc3]; rfl) (by decide) ?_
      exact B283 O K x5 x6 H locs ls hf hw (lv_sub hl [1, 6, 7] rfl)
    replace hf := iteF hf hc3
    by_cases hc4 : r1 = 4
    · have hf := iteT hf hc4
      refine lv_tableIn (tgt := 283) hx hb dL_act_155 (by rw [hc4]; decide) (by rw [hc4]; decide) (by rw [hc4]; rfl) (by decide) ?_
      exact B283 O K x5 x6 H locs ls hf hw (lv_sub hl [1, 6, 7] rfl)
    replace hf := iteF hf hc4
    by_cases hc5 : r1 = 5
    · have hf := iteT hf hc5
      refine lv_tableIn (tgt := 283) hx hb dL_act_155 (by rw [hc5]; decide) (by rw [hc5]; decide) (by rw [hc5]; rfl) (by decide) ?_
      exact B283 O K x5 x6 H locs ls hf hw (lv_sub hl [1, 6, 7] rfl)
    replace hf := iteF hf hc5
    by_cases hc6 : r1 = 6
    · have hf := iteT hf hc6
      refine lv_tableIn (tgt := 312) hx hb dL_act_155 (by rw [hc6]; decide) (by rw [hc6]; decide) (by rw [hc6]; rfl) (by decide) ?_
      refine lv_iload hx hb dL_act_312 (lv_at hl 8 rfl) ?_
      refine lv_if_lt (tgt := 348) hx hb dL_act_314 (by decide) (fun hc => ?_) (fun hc => ?_)
      · have hf := iteT hf hc
        exact B348 O K x5 H locs ls hf hw (lv_sub hl [1, 6] rfl)
      · have hf := iteF hf hc
        refine lv_iload hx hb dL_act_317 (lv_at hl 8 rfl) ?_
        refine lv_iload hx hb dL_act_319 (lv_at hl 6 rfl) ?_
        refine lv_icmp_eq (tgt := 348) hx hb dL_act_321 (by decide) (fun hc => ?_) (fun hc => ?_)
        · have hf := iteT hf hc
          exact B348 O K x5 H locs ls hf hw (lv_sub hl [1, 6] rfl)
        · have hf := iteF hf hc
          refine lv_aload_n hx hb dL_act_324 rfl (lv_at hl 1 rfl) ?_
          refine lv_iload hx hb dL_act_325 (lv_at hl 6 rfl) ?_
          refine lv_bipush (v := 7) hx hb dL_act_327 (by decide) ?_
          obtain ⟨r6, hr6, hf⟩ := bndS hf
          refine q_callV (rest := []) (st1 := [.int r6]) [.int x5, .int 7] ⟨hx, hb, hml, hown, hts⟩ (c_X5_guest hr6) (cwV 2 hts gL_act_X5_guest rfl rfl rfl (by decide +kernel) ⟨Nat.le_of_ble_eq_true rfl, Nat.le_of_ble_eq_true rfl⟩) hw xa_0 rfl rfl hl.1 rfl (Nat.le_of_ble_eq_true rfl) dL_act_329 ⟨Nat.zero_le _, Nat.zero_le _⟩ rfl (fun H locs hw => ?_)
          refine lv_aload_n hx hb dL_act_332 rfl (lv_at hl 1 rfl) ?_
          refine lv_iload hx hb dL_act_333 (lv_at hl 8 rfl) ?_
          refine lv_bipush (v := 7) hx hb dL_act_335 (by decide) ?_
          obtain ⟨r7, hr7, hf⟩ := bndS hf
          refine q_callV (rest := [.int r6]) (st1 := [.int r7, .int r6]) [.int x7, .int 7] ⟨hx, hb, hml, hown, hts⟩ (c_X5_guest hr7) (cwV 2 hts gL_act_X5_guest rfl rfl rfl (by decide +kernel) ⟨Nat.le_of_ble_eq_true rfl, Nat.le_of_ble_eq_true rfl⟩) hw xa_0 rfl rfl hl.1 rfl (Nat.le_of_ble_eq_true rfl) dL_act_337 ⟨Nat.zero_le _, Nat.zero_le _⟩ rfl (fun H locs hw => ?_)
          refine lv_iadd hx hb dL_act_340 ?_
          refine lv_if_ne (tgt := 348) hx hb dL_act_341 (by decide) (fun hc => ?_) (fun hc => ?_)
          · have hf := iteF hf hc
            exact B348 O K x5 H locs ls hf hw (lv_sub hl [1, 6] rfl)
          · have hf := iteT hf hc
            refine lv_iconst (v := 1) hx hb dL_act_344 (by decide) ?_
            refine lv_goto (tgt := 349) hx hb dL_act_345 (by decide) ?_
            exact B349 O K x5 1 H locs ls hf hw (lv_sub hl [1, 6] rfl)
    replace hf := iteF hf hc6
    by_cases hc7 : r1 = 7
    · have hf := iteT hf hc7
      refine lv_tableIn (tgt := 372) hx hb dL_act_155 (by rw [hc7]; decide) (by rw [hc7]; decide) (by rw [hc7]; rfl) (by decide) ?_
      exact B372 O K x5 H locs ls hf hw (lv_sub hl [1, 6] rfl)
    replace hf := iteF hf hc7
    by_cases hc8 : r1 = 8
    · have hf := iteT hf hc8
      refine lv_tableIn (tgt := 372) hx hb dL_act_155 (by rw [hc8]; decide) (by rw [hc8]; decide) (by rw [hc8]; rfl) (by decide) ?_
      exact B372 O K x5 H locs ls hf hw (lv_sub hl [1, 6] rfl)
    replace hf := iteF hf hc8
    by_cases hc9 : r1 = 9
    · have hf := iteT hf hc9
      refine lv_tableIn (tgt := 398) hx hb dL_act_155 (by rw [hc9]; decide) (by rw [hc9]; decide) (by rw [hc9]; rfl) (by decide) ?_
      refine lv_aload_n hx hb dL_act_398 rfl (lv_at hl 1 rfl) ?_
      obtain ⟨r8, O9, K10, hr10, hf⟩ := bnd3S hf
      refine q_callV (rest := []) (st1 := [.int r8]) [] ⟨hx, hb, hml, hown, hts⟩ (c_X5_night hr10) (cwV 0 hts gL_act_X5_night rfl rfl rfl (by decide +kernel) ⟨Nat.le_of_ble_eq_true rfl, Nat.le_of_ble_eq_true rfl⟩) hw xa_0 rfl rfl hl.1 rfl (Nat.le_of_ble_eq_true rfl) dL_act_399 ⟨Nat.zero_le _, Nat.zero_le _⟩ rfl (fun H locs hw => ?_)
      cases hf
      exact q_iret hx hb hr hlocks hw dL_act_402
    replace hf := iteF hf hc9
    by_cases hc10 : r1 = 10
    · have hf := iteT hf hc10
      refine lv_tableIn (tgt := 403) hx hb dL_act_155 (by rw [hc10]; decide) (by rw [hc10]; decide) (by rw [hc10]; rfl) (by decide) ?_
      refine lv_iload_n hx hb dL_act_403 rfl (lv_at hl 3 rfl) ?_
      refine lv_bipush (v := 6) hx hb dL_act_404 (by decide) ?_
      obtain ⟨hgr11, hf⟩ := gdE hf
      obtain ⟨r11, hr11, hf⟩ := nmE hf
      refine q_callS (rest := []) (st1 := [.int r11]) [.int x2, .int 6] ⟨hx, hb, hml, hown, hts⟩ (c_L_up hgr11 hr11) (va_cwS 2 hts gL_act_L_up rfl rfl rfl (by decide +kernel) ⟨Nat.le_of_ble_eq_true rfl, Nat.le_of_ble_eq_true rfl⟩) hw rfl hl.1 rfl (Nat.le_of_ble_eq_true rfl) dL_act_406 ⟨Nat.zero_le _, Nat.zero_le _⟩ rfl (fun H locs hw => ?_)
      refine lv_istore (lv' := [(10, .int r11), (8, .int y0), (0, .ref (ad 0)), (1, .int x1), (2, .int x2), (3, .int x3), (4, .int x4), (5, .int x5), (6, .int x6), (7, .int x7)]) hx hb dL_act_409 hl (by decide) rfl (fun ls hl => ?_)
      refine lv_iload hx hb dL_act_411 (lv_at hl 0 rfl) ?_
      refine lv_if_ne (tgt := 421) hx hb dL_act_413 (by decide) (fun hc => ?_) (fun hc => ?_)
      · have hf := iteF hf hc
        refine lv_iload hx hb dL_act_421 (lv_at hl 0 rfl) ?_
        refine lv_iconst (v := 1) hx hb dL_act_423 (by decide) ?_
        refine lv_icmp_ne (tgt := 432) hx hb dL_act_424 (by decide) (fun hc => ?_) (fun hc => ?_)
        · have hf := iteF hf hc
          refine lv_iload hx hb dL_act_432 (lv_at hl 0 rfl) ?_
          refine lv_iconst (v := 5) hx hb dL_act_434 (by decide) ?_
          refine lv_icmp_ne (tgt := 443) hx hb dL_act_435 (by decide) (fun hc => ?_) (fun hc => ?_)
          · have hf := iteF hf hc
            refine lv_bipush (v := 9) hx hb dL_act_443 (by decide) ?_
            exact B445 O K x2 r11 9 H locs ls hf hw (lv_sub hl [2, 4, 0] rfl)
          · have hf := iteT hf hc
            refine lv_bipush (v := 99) hx hb dL_act_438 (by decide) ?_
            refine lv_goto (tgt := 445) hx hb dL_act_440 (by decide) ?_
            exact B445 O K x2 r11 99 H locs ls hf hw (lv_sub hl [2, 4, 0] rfl)
        · have hf := iteT hf hc
          refine lv_bipush (v := 10) hx hb dL_act_427 (by decide) ?_
          refine lv_goto (tgt := 445) hx hb dL_act_429 (by decide) ?_
          exact B445 O K x2 r11 10 H locs ls hf hw (lv_sub hl [2, 4, 0] rfl)
      · have hf := iteT hf hc
        refine lv_bipush (v := 20) hx hb dL_act_416 (by decide) ?_
        refine lv_goto (tgt := 445) hx hb dL_act_418 (by decide) ?_
        exact B445 O K x2 r11 20 H locs ls hf hw (lv_sub hl [2, 4, 0] rfl)
    replace hf := iteF hf hc10
    by_cases hc11 : r1 = 11
    · have hf := iteT hf hc11
      refine lv_tableIn (tgt := 489) hx hb dL_act_155 (by rw [hc11]; decide) (by rw [hc11]; decide) (by rw [hc11]; rfl) (by decide) ?_
      refine lv_iload_n hx hb dL_act_489 rfl (lv_at hl 3 rfl) ?_
      refine lv_bipush (v := 12) hx hb dL_act_490 (by decide) ?_
      refine lv_ishr hx hb dL_act_492 ?_
      refine lv_iconst (v := 3) hx hb dL_act_493 (by decide) ?_
      refine lv_iand hx hb dL_act_494 ?_
      refine lv_if_ne (tgt := 505) hx hb dL_act_495 (by decide) (fun hc => ?_) (fun hc => ?_)
      · have hf := iteF hf hc
        refine lv_aload_n hx hb dL_act_505 rfl (lv_at hl 1 rfl) ?_
        refine lv_iload hx hb dL_act_506 (lv_at hl 6 rfl) ?_
        obtain ⟨r12, O13, K14, hr14, hf⟩ := bnd3S hf
        refine q_callV (rest := []) (st1 := [.int r12]) [.int x5] ⟨hx, hb, hml, hown, hts⟩ (c_X5_pay hr14) (cwV 1 hts gL_act_X5_pay rfl rfl rfl (by decide +kernel) ⟨Nat.le_of_ble_eq_true rfl, Nat.le_of_ble_eq_true rfl⟩) hw xa_0 rfl rfl hl.1 rfl (Nat.le_of_ble_eq_true rfl) dL_act_508 ⟨Nat.zero_le _, Nat.zero_le _⟩ rfl (fun H locs hw => ?_)
        cases hf
        exact q_iret hx hb hr hlocks hw dL_act_511
      · have hf := iteT hf hc
        refine lv_aload_n hx hb dL_act_498 rfl (lv_at hl 1 rfl) ?_
        obtain ⟨r15, O16, K17, hr17, hf⟩ := bnd3S hf
        refine q_callV (rest := []) (st1 := [.int r15]) [] ⟨hx, hb, hml, hown, hts⟩ (c_X5_restore hr17) (cwV 0 hts gL_act_X5_restore rfl rfl rfl (by decide +kernel) ⟨Nat.le_of_ble_eq_true rfl, Nat.le_of_ble_eq_true rfl⟩) hw xa_0 rfl rfl hl.1 rfl (Nat.le_of_ble_eq_true rfl) dL_act_499 ⟨Nat.zero_le _, Nat.zero_le _⟩ rfl (fun H locs hw => ?_)
        refine lv_goto (tgt := 511) hx hb dL_act_502 (by decide) ?_
        cases hf
        exact q_iret hx hb hr hlocks hw dL_act_511
    replace hf := iteF hf hc11
    by_cases hc12 : r1 = 12
    · have hf := iteT hf hc12
      refine lv_tableIn (tgt := 512) hx hb dL_act_155 (by rw [hc12]; decide) (by rw [hc12]; decide) (by rw [hc12]; rfl) (by decide) ?_
      exact B512 O K x4 x5 H locs ls hf hw (lv_sub hl [1, 5, 6] rfl)
    replace hf := iteF hf hc12
    by_cases hc13 : r1 = 13
    · have hf := iteT hf hc13
      refine lv_tableIn (tgt := 512) hx hb dL_act_155 (by rw [hc13]; decide) (by rw [hc13]; decide) (by rw [hc13]; rfl) (by decide) ?_
      exact B512 O K x4 x5 H locs ls hf hw (lv_sub hl [1, 5, 6] rfl)
    replace hf := iteF hf hc13
    by_cases hc14 : r1 = 14
    · have hf := iteT hf hc14
      refine lv_tableIn (tgt := 512) hx hb dL_act_155 (by rw [hc14]; decide) (by rw [hc14]; decide) (by rw [hc14]; rfl) (by decide) ?_
      exact B512 O K x4 x5 H locs ls hf hw (lv_sub hl [1, 5, 6] rfl)
    replace hf := iteF hf hc14
    have nhc0 := ne_toInt hc0 (k := 0) (by decide)
    have nhc1 := ne_toInt hc1 (k := 1) (by decide)
    have nhc2 := ne_toInt hc2 (k := 2) (by decide)
    have nhc3 := ne_toInt hc3 (k := 3) (by decide)
    have nhc4 := ne_toInt hc4 (k := 4) (by decide)
    have nhc5 := ne_toInt hc5 (k := 5) (by decide)
    have nhc6 := ne_toInt hc6 (k := 6) (by decide)
    have nhc7 := ne_toInt hc7 (k := 7) (by decide)
    have nhc8 := ne_toInt hc8 (k := 8) (by decide)
    have nhc9 := ne_toInt hc9 (k := 9) (by decide)
    have nhc10 := ne_toInt hc10 (k := 10) (by decide)
    have nhc11 := ne_toInt hc11 (k := 11) (by decide)
    have nhc12 := ne_toInt hc12 (k := 12) (by decide)
    have nhc13 := ne_toInt hc13 (k := 13) (by decide)
    have nhc14 := ne_toInt hc14 (k := 14) (by decide)
    refine lv_tableOut (tgt := 537) hx hb dL_act_155 (by omega) (by decide) ?_
    refine lv_aload_n hx hb dL_act_537 rfl (lv_at hl 1 rfl) ?_
    refine lv_iload hx hb dL_act_538 (lv_at hl 6 rfl) ?_
    refine lv_iconst (v := 0) hx hb dL_act_540 (by decide) ?_
    obtain ⟨r18, hr18, hf⟩ := bndS hf
    refine q_callV (rest := []) (st1 := [.int r18]) [.int x5, .int 0] ⟨hx, hb, hml, hown, hts⟩ (c_X5_whyNot hr18) (cwV 2 hts gL_act_X5_whyNot rfl rfl rfl (by decide +kernel) ⟨Nat.le_of_ble_eq_true rfl, Nat.le_of_ble_eq_true rfl⟩) hw xa_0 rfl rfl hl.1 rfl (Nat.le_of_ble_eq_true rfl) dL_act_541 ⟨Nat.zero_le _, Nat.zero_le _⟩ rfl (fun H locs hw => ?_)
    refine lv_if_ne (tgt := 558) hx hb dL_act_544 (by decide) (fun hc => ?_) (fun hc => ?_)
    · have hf := iteF hf hc
      refine lv_aload_n hx hb dL_act_558 rfl (lv_at hl 1 rfl) ?_
      refine lv_iload hx hb dL_act_559 (lv_at hl 5 rfl) ?_
      obtain ⟨r19, hr19, hf⟩ := bndS hf
      refine q_callV (rest := []) (st1 := [.int r19]) [.int x4] ⟨hx, hb, hml, hown, hts⟩ (c_X5_line hr19) (cwV 1 hts gL_act_X5_line rfl rfl rfl (by decide +kernel) ⟨Nat.le_of_ble_eq_true rfl, Nat.le_of_ble_eq_true rfl⟩) hw xa_0 rfl rfl hl.1 rfl (Nat.le_of_ble_eq_true rfl) dL_act_561 ⟨Nat.zero_le _, Nat.zero_le _⟩ rfl (fun H locs hw => ?_)
      refine lv_if_le (tgt := 576) hx hb dL_act_564 (by decide) (fun hc => ?_) (fun hc => ?_)
      · have hf := iteT hf hc
        refine lv_aload_n hx hb dL_act_576 rfl (lv_at hl 1 rfl) ?_
        obtain ⟨r20, O21, K22, hr22, hf⟩ := bnd3S hf
        refine q_callV (rest := []) (st1 := [.int r20]) [] ⟨hx, hb, hml, hown, hts⟩ (c_X5_night hr22) (cwV 0 hts gL_act_X5_night rfl rfl rfl (by decide +kernel) ⟨Nat.le_of_ble_eq_true rfl, Nat.le_of_ble_eq_true rfl⟩) hw xa_0 rfl rfl hl.1 rfl (Nat.le_of_ble_eq_true rfl) dL_act_577 ⟨Nat.zero_le _, Nat.zero_le _⟩ rfl (fun H locs hw => ?_)
        cases hf
        exact q_iret hx hb hr hlocks hw dL_act_580
      · have hf := iteF hf hc
        refine lv_aload_n hx hb dL_act_567 rfl (lv_at hl 1 rfl) ?_
        refine lv_iload hx hb dL_act_568 (lv_at hl 5 rfl) ?_
        obtain ⟨r23, O24, K25, hr25, hf⟩ := bnd3S hf
        refine q_callV (rest := []) (st1 := [.int r23]) [.int x4] ⟨hx, hb, hml, hown, hts⟩ (c_X5_open hr25) (cwV 1 hts gL_act_X5_open rfl rfl rfl (by decide +kernel) ⟨Nat.le_of_ble_eq_true rfl, Nat.le_of_ble_eq_true rfl⟩) hw xa_0 rfl rfl hl.1 rfl (Nat.le_of_ble_eq_true rfl) dL_act_570 ⟨Nat.zero_le _, Nat.zero_le _⟩ rfl (fun H locs hw => ?_)
        refine lv_goto (tgt := 580) hx hb dL_act_573 (by decide) ?_
        cases hf
        exact q_iret hx hb hr hlocks hw dL_act_580
    · have hf := iteT hf hc
      refine lv_aload_n hx hb dL_act_547 rfl (lv_at hl 1 rfl) ?_
      refine lv_iload hx hb dL_act_548 (lv_at hl 6 rfl) ?_
      refine lv_iload hx hb dL_act_550 (lv_at hl 5 rfl) ?_
      obtain ⟨r26, O27, K28, hr28, hf⟩ := bnd3S hf
      refine q_callV (rest := []) (st1 := [.int r26]) [.int x5, .int x4] ⟨hx, hb, hml, hown, hts⟩ (c_X5_queue hr28) (cwV 2 hts gL_act_X5_queue rfl rfl rfl (by decide +kernel) ⟨Nat.le_of_ble_eq_true rfl, Nat.le_of_ble_eq_true rfl⟩) hw xa_0 rfl rfl hl.1 rfl (Nat.le_of_ble_eq_true rfl) dL_act_552 ⟨Nat.zero_le _, Nat.zero_le _⟩ rfl (fun H locs hw => ?_)
      refine lv_goto (tgt := 580) hx hb dL_act_555 (by decide) ?_
      cases hf
      exact q_iret hx hb hr hlocks hw dL_act_580
  have B146 : ∀ (O : XO) (K : RK) (x1 : Int32) (x2 : Int32) (x3 : Int32) (x4 : Int32) (x5 : Int32) (x6 : Int32) (x7 : Int32) (H : Heap) (locs : List Loc) (ls : Array Slot), f_L_act_b146 O K x1 x2 x3 x4 x5 x6 x7 = some (r, O', K') → WH D cI cR A (xws cI cR ad O K) s H locs → lv_has ls 13 [(0, .ref (ad 0)), (1, .int x1), (2, .int x2), (3, .int x3), (4, .int x4), (5, .int x5), (6, .int x6), (7, .int x7)] → W p l e (headSpec wsL_act ({ frames := 6, cells := 0, slots := 0, locals := 134 })).room s m ([.ref (ad 0), .int a1, .int a2] : List Value).toArray below meth c H locs 0 0 (MQ below (QV (some (.int r)) D A (xws cI cR ad O' K')) (([.ref (ad 0), .int a1, .int a2] : List Value)).toArray s 0 0 A) (F0 m 146 ls []) := by
    intro O K x1 x2 x3 x4 x5 x6 x7 H locs ls hf hw hl
    unfold f_L_act_b146 at hf
    refine lv_iconst (v := 0) hx hb dL_act_146 (by decide) ?_
    exact B147 O K x1 x2 x3 x4 x5 x6 x7 0 H locs ls hf hw (lv_sub hl [0, 1, 2, 3, 4, 5, 6, 7] rfl)
  have B77 : ∀ (O : XO) (K : RK) (x1 : Int32) (x2 : Int32) (x3 : Int32) (x4 : Int32) (H : Heap) (locs : List Loc) (ls : Array Slot), f_L_act_b77 O K x1 x2 x3 x4 = some (r, O', K') → WH D cI cR A (xws cI cR ad O K) s H locs → lv_has ls 13 [(0, .ref (ad 0)), (1, .int x1), (2, .int x2), (3, .int x3), (4, .int x4)] → W p l e (headSpec wsL_act ({ frames := 6, cells := 0, slots := 0, locals := 134 })).room s m ([.ref (ad 0), .int a1, .int a2] : List Value).toArray below meth c H locs 0 0 (MQ below (QV (some (.int r)) D A (xws cI cR ad O' K')) (([.ref (ad 0), .int a1, .int a2] : List Value)).toArray s 0 0 A) (F0 m 77 ls []) := by
    intro O K x1 x2 x3 x4 H locs ls hf hw hl
    unfold f_L_act_b77 at hf
    refine lv_iload_n hx hb dL_act_77 rfl (lv_at hl 2 rfl) ?_
    refine lv_iload_n hx hb dL_act_78 rfl (lv_at hl 3 rfl) ?_
    obtain ⟨hgr1, hf⟩ := gdE hf
    obtain ⟨r1, hr1, hf⟩ := nmE hf
    refine q_callS (rest := []) (st1 := [.int r1]) [.int x2, .int x3] ⟨hx, hb, hml, hown, hts⟩ (c_L_up hgr1 hr1) (va_cwS 2 hts gL_act_L_up rfl rfl rfl (by decide +kernel) ⟨Nat.le_of_ble_eq_true rfl, Nat.le_of_ble_eq_true rfl⟩) hw rfl hl.1 rfl (Nat.le_of_ble_eq_true rfl) dL_act_79 ⟨Nat.zero_le _, Nat.zero_le _⟩ rfl (fun H locs hw => ?_)
    refine lv_istore (lv' := [(5, .int r1), (0, .ref (ad 0)), (1, .int x1), (2, .int x2), (3, .int x3), (4, .int x4)]) hx hb dL_act_82 hl (by decide) rfl (fun ls hl => ?_)
    refine lv_iload_n hx hb dL_act_84 rfl (lv_at hl 3 rfl) ?_
    refine lv_iconst (v := 4) hx hb dL_act_85 (by decide) ?_
    refine lv_ishr hx hb dL_act_86 ?_
    refine lv_iload_n hx hb dL_act_87 rfl (lv_at hl 4 rfl) ?_
    obtain ⟨hgr2, hf⟩ := gdE hf
    obtain ⟨r2, hr2, hf⟩ := nmE hf
    refine q_callS (rest := []) (st1 := [.int r2]) [.int (x2 >>> (4 &&& 31)), .int x3] ⟨hx, hb, hml, hown, hts⟩ (c_L_up hgr2 hr2) (va_cwS 2 hts gL_act_L_up rfl rfl rfl (by decide +kernel) ⟨Nat.le_of_ble_eq_true rfl, Nat.le_of_ble_eq_true rfl⟩) hw rfl hl.1 rfl (Nat.le_of_ble_eq_true rfl) dL_act_88 ⟨Nat.zero_le _, Nat.zero_le _⟩ rfl (fun H locs hw => ?_)
    refine lv_istore (lv' := [(6, .int r2), (5, .int r1), (0, .ref (ad 0)), (1, .int x1), (2, .int x2), (3, .int x3), (4, .int x4)]) hx hb dL_act_91 hl (by decide) rfl (fun ls hl => ?_)
    refine lv_aload_n hx hb dL_act_93 rfl (lv_at hl 2 rfl) ?_
    refine lv_iload hx hb dL_act_94 (lv_at hl 1 rfl) ?_
    refine lv_iconst (v := 4) hx hb dL_act_96 (by decide) ?_
    obtain ⟨r3, hr3, hf⟩ := bndS hf
    refine q_callV (rest := []) (st1 := [.int r3]) [.int r1, .int 4] ⟨hx, hb, hml, hown, hts⟩ (c_X5_guest hr3) (cwV 2 hts gL_act_X5_guest rfl rfl rfl (by decide +kernel) ⟨Nat.le_of_ble_eq_true rfl, Nat.le_of_ble_eq_true rfl⟩) hw xa_0 rfl rfl hl.1 rfl (Nat.le_of_ble_eq_true rfl) dL_act_97 ⟨Nat.zero_le _, Nat.zero_le _⟩ rfl (fun H locs hw => ?_)
    refine lv_istore (lv' := [(7, .int r3), (6, .int r2), (5, .int r1), (0, .ref (ad 0)), (1, .int x1), (2, .int x2), (3, .int x3), (4, .int x4)]) hx hb dL_act_100 hl (by decide) rfl (fun ls hl => ?_)
    refine lv_iload hx hb dL_act_102 (lv_at hl 0 rfl) ?_
    refine lv_iload hx hb dL_act_104 (lv_at hl 2 rfl) ?_
    refine lv_icmp_ne (tgt := 146) hx hb dL_act_106 (by decide) (fun hc => ?_) (fun hc => ?_)
    · have hf := iteF hf hc
      exact B146 O K x1 x2 x3 x4 r1 r2 r3 H locs ls hf hw (lv_sub hl [3, 4, 5, 6, 7, 2, 1, 0] rfl)
    · have hf := iteT hf hc
      refine lv_aload_n hx hb dL_act_109 rfl (lv_at hl 3 rfl) ?_
      refine lv_iload hx hb dL_act_110 (lv_at hl 2 rfl) ?_
      refine lv_bipush (v := 10) hx hb dL_act_112 (by decide) ?_
      obtain ⟨r4, hr4, hf⟩ := bndS hf
      refine q_callV (rest := []) (st1 := [.int r4]) [.int r1, .int 10] ⟨hx, hb, hml, hown, hts⟩ (c_X5_guest hr4) (cwV 2 hts gL_act_X5_guest rfl rfl rfl (by decide +kernel) ⟨Nat.le_of_ble_eq_true rfl, Nat.le_of_ble_eq_true rfl⟩) hw xa_0 rfl rfl hl.1 rfl (Nat.le_of_ble_eq_true rfl) dL_act_114 ⟨Nat.zero_le _, Nat.zero_le _⟩ rfl (fun H locs hw => ?_)
      refine lv_if_ge (tgt := 146) hx hb dL_act_117 (by decide) (fun hc => ?_) (fun hc => ?_)
      · have hf := iteT hf hc
        exact B146 O K x1 x2 x3 x4 r1 r2 r3 H locs ls hf hw (lv_sub hl [3, 4, 5, 6, 7, 2, 1, 0] rfl)
      · have hf := iteF hf hc
        refine lv_aload_n hx hb dL_act_120 rfl (lv_at hl 3 rfl) ?_
        refine lv_iload hx hb dL_act_121 (lv_at hl 2 rfl) ?_
        refine lv_bipush (v := 7) hx hb dL_act_123 (by decide) ?_
        obtain ⟨r5, hr5, hf⟩ := bndS hf
        refine q_callV (rest := []) (st1 := [.int r5]) [.int r1, .int 7] ⟨hx, hb, hml, hown, hts⟩ (c_X5_guest hr5) (cwV 2 hts gL_act_X5_guest rfl rfl rfl (by decide +kernel) ⟨Nat.le_of_ble_eq_true rfl, Nat.le_of_ble_eq_true rfl⟩) hw xa_0 rfl rfl hl.1 rfl (Nat.le_of_ble_eq_true rfl) dL_act_125 ⟨Nat.zero_le _, Nat.zero_le _⟩ rfl (fun H locs hw => ?_)
        refine lv_if_ne (tgt := 146) hx hb dL_act_128 (by decide) (fun hc => ?_) (fun hc => ?_)
        · have hf := iteF hf hc
          exact B146 O K x1 x2 x3 x4 r1 r2 r3 H locs ls hf hw (lv_sub hl [3, 4, 5, 6, 7, 2, 1, 0] rfl)
        · have hf := iteT hf hc
          refine lv_aload_n hx hb dL_act_131 rfl (lv_at hl 3 rfl) ?_
          refine lv_iload hx hb dL_act_132 (lv_at hl 2 rfl) ?_
          refine lv_bipush (v := 8) hx hb dL_act_134 (by decide) ?_
          obtain ⟨r6, hr6, hf⟩ := bndS hf
          refine q_callV (rest := []) (st1 := [.int r6]) [.int r1, .int 8] ⟨hx, hb, hml, hown, hts⟩ (c_X5_guest hr6) (cwV 2 hts gL_act_X5_guest rfl rfl rfl (by decide +kernel) ⟨Nat.le_of_ble_eq_true rfl, Nat.le_of_ble_eq_true rfl⟩) hw xa_0 rfl rfl hl.1 rfl (Nat.le_of_ble_eq_true rfl) dL_act_136 ⟨Nat.zero_le _, Nat.zero_le _⟩ rfl (fun H locs hw => ?_)
          refine lv_if_ge (tgt := 146) hx hb dL_act_139 (by decide) (fun hc => ?_) (fun hc => ?_)
          · have hf := iteT hf hc
            exact B146 O K x1 x2 x3 x4 r1 r2 r3 H locs ls hf hw (lv_sub hl [3, 4, 5, 6, 7, 2, 1, 0] rfl)
          · have hf := iteF hf hc
            refine lv_iconst (v := 1) hx hb dL_act_142 (by decide) ?_
            refine lv_goto (tgt := 147) hx hb dL_act_143 (by decide) ?_
            exact B147 O K x1 x2 x3 x4 r1 r2 r3 1 H locs ls hf hw (lv_sub hl [3, 4, 5, 6, 7, 2, 1, 0] rfl)
  refine lv_aload_n hx hb dL_act_0 rfl (lv_at hl 0 rfl) ?_
  refine lv_iconst (v := 1) hx hb dL_act_1 (by decide) ?_
  obtain ⟨r1, hr1, hf⟩ := bndS hf
  refine q_callV (rest := []) (st1 := [.int r1]) [.int 1] ⟨hx, hb, hml, hown, hts⟩ (c_X5_count hr1) (cwV 1 hts gL_act_X5_count rfl rfl rfl (by decide +kernel) ⟨Nat.le_of_ble_eq_true rfl, Nat.le_of_ble_eq_true rfl⟩) hw xa_0 rfl rfl hl.1 rfl (Nat.le_of_ble_eq_true rfl) dL_act_2 ⟨Nat.zero_le _, Nat.zero_le _⟩ rfl (fun H locs hw => ?_)
  refine lv_istore_n (lv' := [(3, .int r1), (0, .ref (ad 0)), (1, .int a1), (2, .int a2)]) hx hb dL_act_5 rfl hl (by decide) rfl (fun ls hl => ?_)
  refine lv_iload_n hx hb dL_act_6 rfl (lv_at hl 3 rfl) ?_
  refine lv_bipush (v := 8) hx hb dL_act_7 (by decide) ?_
  refine lv_ishr hx hb dL_act_9 ?_
  refine lv_iconst (v := 3) hx hb dL_act_10 (by decide) ?_
  obtain ⟨hgr2, hf⟩ := gdE hf
  obtain ⟨r2, hr2, hf⟩ := nmE hf
  refine q_callS (rest := []) (st1 := [.int r2]) [.int (a2 >>> (8 &&& 31)), .int 3] ⟨hx, hb, hml, hown, hts⟩ (c_L_up hgr2 hr2) (va_cwS 2 hts gL_act_L_up rfl rfl rfl (by decide +kernel) ⟨Nat.le_of_ble_eq_true rfl, Nat.le_of_ble_eq_true rfl⟩) hw rfl hl.1 rfl (Nat.le_of_ble_eq_true rfl) dL_act_11 ⟨Nat.zero_le _, Nat.zero_le _⟩ rfl (fun H locs hw => ?_)
  refine lv_istore (lv' := [(4, .int r2), (3, .int r1), (0, .ref (ad 0)), (1, .int a1), (2, .int a2)]) hx hb dL_act_14 hl (by decide) rfl (fun ls hl => ?_)
  refine lv_iload_n hx hb dL_act_16 rfl (lv_at hl 1 rfl) ?_
  refine lv_iconst (v := 3) hx hb dL_act_17 (by decide) ?_
  refine lv_icmp_lt (tgt := 36) hx hb dL_act_18 (by decide) (fun hc => ?_) (fun hc => ?_)
  · have hf := iteT hf hc
    exact B36 O K a2 H locs ls hf hw (lv_sub hl [2, 4] rfl)
  · have hf := iteF hf hc
    refine lv_iload_n hx hb dL_act_21 rfl (lv_at hl 3 rfl) ?_
    refine lv_bipush (v := 20) hx hb dL_act_22 (by decide) ?_
    obtain ⟨hgr3, hf⟩ := gdE hf
    obtain ⟨r3, hr3, hf⟩ := nmE hf
    refine q_callS (rest := []) (st1 := [.int r3]) [.int a1, .int 20] ⟨hx, hb, hml, hown, hts⟩ (c_L_up hgr3 hr3) (va_cwS 2 hts gL_act_L_up rfl rfl rfl (by decide +kernel) ⟨Nat.le_of_ble_eq_true rfl, Nat.le_of_ble_eq_true rfl⟩) hw rfl hl.1 rfl (Nat.le_of_ble_eq_true rfl) dL_act_24 ⟨Nat.zero_le _, Nat.zero_le _⟩ rfl (fun H locs hw => ?_)
    refine lv_if_ne (tgt := 77) hx hb dL_act_27 (by decide) (fun hc => ?_) (fun hc => ?_)
    · have hf := iteF hf hc
      exact B77 O K a1 a2 r1 r2 H locs ls hf hw (lv_sub hl [2, 3, 4, 1, 0] rfl)
    · have hf := iteT hf hc
      refine lv_iload_n hx hb dL_act_30 rfl (lv_at hl 1 rfl) ?_
      refine lv_bipush (v := 10) hx hb dL_act_31 (by decide) ?_
      refine lv_icmp_ge (tgt := 77) hx hb dL_act_33 (by decide) (fun hc => ?_) (fun hc => ?_)
      · have hf := iteT hf hc
        exact B77 O K a1 a2 r1 r2 H locs ls hf hw (lv_sub hl [2, 3, 4, 1, 0] rfl)
      · have hf := iteF hf hc
        exact B36 O K a2 H locs ls hf hw (lv_sub hl [2, 4] rfl)
