def f_L_isAhead_b563    (O : XO) (K : RK) (x3 : Int64) (y0 : Int32) : Option (Int32 × XO × RK) := (if y0 = 0 then some (0, O, K) else bnd (f_L_looks O K) (fun r1 => (if (lg_cmp r1 x3) = 0 then some (1, O, K) else some (0, O, K))))
def f_L_isAhead_b562    (O : XO) (K : RK) (x3 : Int64) : Option (Int32 × XO × RK) := f_L_isAhead_b563 O K x3 0
def f_L_isAhead_b551    (O : XO) (K : RK) (x3 : Int64) : Option (Int32 × XO × RK) := bnd3 (f_X5_undo O K) (fun r1 O2 K3 => (if r1 < 0 then f_L_isAhead_b562 O2 K3 x3 else f_L_isAhead_b563 O2 K3 x3 1))
def f_L_isAhead_b493    (O : XO) (K : RK) (x1 : Int32) (x3 : Int64) (y0 : Int32) : Option (Int32 × XO × RK) := bnd (f_X5_guest K x1 2) (fun r1 => (if y0 = 0 then f_L_isAhead_b562 O K x3 else bnd3 (f_X5_pay O K x1) (fun r2 O3 K4 => bnd (f_X5_guest K4 x1 2) (fun r5 => (if r2 = r5 then bnd (f_X5_guest K4 x1 2) (fun r6 => (if r1 < r6 then f_L_isAhead_b562 O3 K4 x3 else bnd (f_X5_guest K4 x1 1) (fun r7 => (if r7 = 0 then f_L_isAhead_b551 O3 K4 x3 else bnd (f_X5_guest K4 x1 2) (fun r8 => (if r8 = 0 then f_L_isAhead_b551 O3 K4 x3 else f_L_isAhead_b562 O3 K4 x3)))))) else f_L_isAhead_b562 O3 K4 x3)))))
def f_L_isAhead_b492    (O : XO) (K : RK) (x1 : Int32) (x3 : Int64) : Option (Int32 × XO × RK) := f_L_isAhead_b493 O K x1 x3 0
def f_L_isAhead_b416    (O : XO) (K : RK) (x1 : Int32) (x3 : Int64) (x8 : Int32) : Option (Int32 × XO × RK) := bnd (f_X5_count O K 2) (fun r1 => bnd (f_X5_count O K 0) (fun r2 => (if x8 = 0 then f_L_isAhead_b492 O K x1 x3 else bnd3 (f_X5_night O K) (fun r3 O4 K5 => (if r3 = r1 then bnd (f_X5_count O4 K5 2) (fun r6 => (if r6 = 0 then bnd (f_X5_count O4 K5 3) (fun r7 => (if r7 = 0 then bnd (f_X5_count O4 K5 14) (fun r8 => (if r8 = 0 then bnd (f_X5_count O4 K5 0) (fun r9 => (if r9 = (r2 + 1) then bnd3 (f_X5_undo O4 K5) (fun r10 O11 K12 => (if r10 < 0 then f_L_isAhead_b492 O11 K12 x1 x3 else f_L_isAhead_b493 O11 K12 x1 x3 1)) else f_L_isAhead_b492 O4 K5 x1 x3)) else f_L_isAhead_b492 O4 K5 x1 x3)) else f_L_isAhead_b492 O4 K5 x1 x3)) else f_L_isAhead_b492 O4 K5 x1 x3)) else f_L_isAhead_b492 O4 K5 x1 x3)))))
def f_L_isAhead_b414    (O : XO) (K : RK) (x1 : Int32) (x3 : Int64) (y0 : Int32) : Option (Int32 × XO × RK) := f_L_isAhead_b416 O K x1 x3 y0
def f_L_isAhead_b413    (O : XO) (K : RK) (x1 : Int32) (x3 : Int64) : Option (Int32 × XO × RK) := f_L_isAhead_b414 O K x1 x3 0
def f_L_isAhead_b402    (O : XO) (K : RK) (x1 : Int32) (x3 : Int64) : Option (Int32 × XO × RK) := bnd3 (f_X5_undo O K) (fun r1 O2 K3 => (if r1 < 0 then f_L_isAhead_b413 O2 K3 x1 x3 else f_L_isAhead_b414 O2 K3 x1 x3 1))
def f_L_isAhead_b248 (k208 : XO → RK → Int32 → Int32 → Int64 → Int32 → Int32 → Int32 → Option (Int32 × XO × RK))   (O : XO) (K : RK) (x1 : Int32) (x2 : Int32) (x3 : Int64) (x8 : Int32) (x10 : Int32) (y0 : Int32) : Option (Int32 × XO × RK) := nm (x10 + 1) (fun v1 => k208 O K x1 x2 x3 x8 y0 v1)
def f_L_isAhead_b246 (k208 : XO → RK → Int32 → Int32 → Int64 → Int32 → Int32 → Int32 → Option (Int32 × XO × RK))   (O : XO) (K : RK) (x1 : Int32) (x2 : Int32) (x3 : Int64) (x8 : Int32) (x9 : Int32) (x10 : Int32) : Option (Int32 × XO × RK) := f_L_isAhead_b248 k208 O K x1 x2 x3 x8 x10 x9
def f_L_isAhead_l208    : Nat → XO → RK → Int32 → Int32 → Int64 → Int32 → Int32 → Int32 → Option (Int32 × XO × RK)
  | 0, _, _, _, _, _, _, _, _ => none
  | n208 + 1, O, K, x1, x2, x3, x8, x9, x10 => bnd (f_X5_count O K 1) (fun r1 => (if r1 ≤ x10 then (if x8 = 0 then f_L_isAhead_b416 O K x1 x3 x8 else (if x9 < 0 then f_L_isAhead_b416 O K x1 x3 x8 else bnd (f_X5_ifOpened K x9 x2 0) (fun r2 => bnd (f_X5_ifOpened K x9 x2 3) (fun r3 => bnd (f_X5_count O K 12) (fun r4 => bnd (f_X5_count O K 8) (fun r5 => bnd3 (f_X5_open O K x2) (fun r6 O7 K8 => (if r6 = r2 then bnd (f_X5_guest K8 x9 7) (fun r9 => (if r9 = 1 then bnd (f_X5_guest K8 x9 2) (fun r10 => (if r10 = r3 then bnd (f_X5_count O7 K8 12) (fun r11 => (if r11 = (r4 + r2) then bnd (f_X5_count O7 K8 8) (fun r12 => (if r12 = (r5 - r2) then bnd (f_X5_guest K8 x9 6) (fun r13 => (if 0 < r13 then f_L_isAhead_b402 O7 K8 x1 x3 else bnd (f_X5_guest K8 x9 5) (fun r14 => bnd (f_X5_guest K8 x9 0) (fun r15 => bnd (f_X5_count O7 K8 0) (fun r16 => bnd (f_X5_law K8 x2 r15 r16) (fun r17 => (if r17 < r14 then f_L_isAhead_b413 O7 K8 x1 x3 else f_L_isAhead_b402 O7 K8 x1 x3))))))) else f_L_isAhead_b413 O7 K8 x1 x3)) else f_L_isAhead_b413 O7 K8 x1 x3)) else f_L_isAhead_b413 O7 K8 x1 x3)) else f_L_isAhead_b413 O7 K8 x1 x3)) else f_L_isAhead_b413 O7 K8 x1 x3)))))))) else bnd (f_X5_guest K x10 8) (fun r18 => (if r18 = x2 then bnd (f_X5_guest K x10 9) (fun r19 => (if r19 = 0 then f_L_isAhead_b248 (f_L_isAhead_l208 n208) O K x1 x2 x3 x8 x10 x10 else f_L_isAhead_b246 (f_L_isAhead_l208 n208) O K x1 x2 x3 x8 x9 x10)) else f_L_isAhead_b246 (f_L_isAhead_l208 n208) O K x1 x2 x3 x8 x9 x10))))
def f_L_isAhead_b194 (k102 : XO → RK → Int32 → Int32 → Int64 → Int32 → Int32 → Int32 → Option (Int32 × XO × RK))   (O : XO) (K : RK) (x1 : Int32) (x2 : Int32) (x3 : Int64) (x5 : Int32) (x9 : Int32) (y0 : Int32) : Option (Int32 × XO × RK) := nm (x9 + 1) (fun v1 => k102 O K x1 x2 x3 x5 y0 v1)
def f_L_isAhead_b193 (k102 : XO → RK → Int32 → Int32 → Int64 → Int32 → Int32 → Int32 → Option (Int32 × XO × RK))   (O : XO) (K : RK) (x1 : Int32) (x2 : Int32) (x3 : Int64) (x5 : Int32) (x9 : Int32) : Option (Int32 × XO × RK) := f_L_isAhead_b194 k102 O K x1 x2 x3 x5 x9 0
def f_L_isAhead_l102    : Nat → XO → RK → Int32 → Int32 → Int64 → Int32 → Int32 → Int32 → Option (Int32 × XO × RK)
  | 0, _, _, _, _, _, _, _, _ => none
  | n102 + 1, O, K, x1, x2, x3, x5, x8, x9 => (if 3 ≤ x9 then f_L_isAhead_l208 fuelN O K x1 x2 x3 x8 (-1) 0 else bnd (f_X5_ifOpened K x1 x9 0) (fun r1 => (if x8 = 0 then f_L_isAhead_b193 (f_L_isAhead_l102 n102) O K x1 x2 x3 x5 x9 else (if r1 < x5 then f_L_isAhead_b193 (f_L_isAhead_l102 n102) O K x1 x2 x3 x5 x9 else (if r1 < 0 then f_L_isAhead_b193 (f_L_isAhead_l102 n102) O K x1 x2 x3 x5 x9 else bnd (f_X5_ifOpened K x1 x9 1) (fun r2 => bnd (f_X5_count O K 18) (fun r3 => (if r2 = (r3 * r1) then bnd (f_X5_ifOpened K x1 x9 2) (fun r4 => bnd (f_X5_guest K x1 1) (fun r5 => (if r5 < r4 then f_L_isAhead_b193 (f_L_isAhead_l102 n102) O K x1 x2 x3 x5 x9 else bnd (f_X5_ifOpened K x1 x9 3) (fun r6 => bnd (f_X5_guest K x1 2) (fun r7 => (if r6 < r7 then f_L_isAhead_b193 (f_L_isAhead_l102 n102) O K x1 x2 x3 x5 x9 else f_L_isAhead_b194 (f_L_isAhead_l102 n102) O K x1 x2 x3 x5 x9 1)))))) else f_L_isAhead_b193 (f_L_isAhead_l102 n102) O K x1 x2 x3 x5 x9))))))))
def f_L_isAhead_b97    (O : XO) (K : RK) (x1 : Int32) (x2 : Int32) (x3 : Int64) (x5 : Int32) (y0 : Int32) : Option (Int32 × XO × RK) := f_L_isAhead_l102 fuelN O K x1 x2 x3 x5 y0 0
def f_L_isAhead_b96    (O : XO) (K : RK) (x1 : Int32) (x2 : Int32) (x3 : Int64) (x5 : Int32) : Option (Int32 × XO × RK) := f_L_isAhead_b97 O K x1 x2 x3 x5 0
def f_L_isAhead_b92    (O : XO) (K : RK) (x1 : Int32) (x2 : Int32) (x3 : Int64) (x5 : Int32) : Option (Int32 × XO × RK) := f_L_isAhead_b97 O K x1 x2 x3 x5 1
def f_L_isAhead_b70    (O : XO) (K : RK) (x1 : Int32) (x2 : Int32) (x3 : Int64) (x5 : Int32) (y0 : Int32) (y1 : Int32) : Option (Int32 × XO × RK) := (if y1 = y0 then bnd (f_X5_freeIn K x1 0) (fun r1 => (if r1 = 0 then f_L_isAhead_b92 O K x1 x2 x3 x5 else bnd (f_X5_freeIn K x1 0) (fun r2 => (if r2 = (-1) then f_L_isAhead_b92 O K x1 x2 x3 x5 else f_L_isAhead_b96 O K x1 x2 x3 x5)))) else f_L_isAhead_b96 O K x1 x2 x3 x5)
def f_L_isAhead_b54    (O : XO) (K : RK) (x1 : Int32) (x2 : Int32) (x3 : Int64) (x5 : Int32) (x7 : Int32) (y0 : Int32) : Option (Int32 × XO × RK) := bnd (f_X5_guest K x1 5) (fun r1 => (if x7 < r1 then f_L_isAhead_b70 O K x1 x2 x3 x5 0 y0 else f_L_isAhead_b70 O K x1 x2 x3 x5 1 y0))
def f_L_isAhead (O : XO) (K : RK)  (a1 : Int32) (a2 : Int32) : Option (Int32 × XO × RK) := bnd (f_L_looks O K) (fun r1 => bnd (f_X5_bestGate K a1) (fun r2 => bnd (f_X5_ifOpened K a1 r2 0) (fun r3 => bnd (f_X5_freeIn K a1 a2) (fun r4 => bnd (f_X5_guest K a1 0) (fun r5 => bnd (f_X5_count O K 0) (fun r6 => bnd (f_X5_law K a2 r5 r6) (fun r7 => (if r4 = 0 then f_L_isAhead_b54 O K a1 a2 r1 r3 r7 1 else f_L_isAhead_b54 O K a1 a2 r1 r3 r7 0))))))))
set_option maxHeartbeats 4000000 in
set_option maxRecDepth 100000 in
theorem c_L_isAhead {l : Launch} {D : va_G} {cI cR : ClassId} {ad : Nat → Nat} {A : Nat → Prop} {O : XO} {K : RK} {O' : XO} {K' : RK} {a1 : Int32} {a2 : Int32} {r : Int32}  (hf : f_L_isAhead O K a1 a2 = some (r, O', K')) : MC l yL_isAhead wsL_isAhead 7 150 D cI cR A [.ref (ad 0), .int a1, .int a2] (xws cI cR ad O K) (some (.int r)) (xws cI cR ad O' K') := by
  refine Met.ofW (cc := cL_isAhead) (maxL := 14) (ret := (some .boolean)) (by decide) rfl ?_
  intro p e s m args below meth c s₁ B hml hv
  obtain ⟨rfl, hw⟩ := q_start hv
  have hx := B.exec
  have hb := B.bytes
  have hr := B.returns
  have hts := atoms_spec (ws := wsL_isAhead) B.pre
  have hown : s.vm.findClass RL = some m.cls := findClass_of_methodNamed B.named
  have hlocks := B.notSynchronized
  have hl := lv_entry ([.ref (ad 0), .int a1, .int a2]) (n := 14) (Nat.le_of_ble_eq_true rfl)
  rw [lg_entry_eq]
  generalize (lg_sl ([.ref (ad 0), .int a1, .int a2]) ++ List.replicate (14 - (lg_sl ([.ref (ad 0), .int a1, .int a2])).length) Slot.unset).toArray = ls at hl ⊢
  have hl : lv_has ls 14 [(0, .ref (ad 0)), (1, .int a1), (2, .int a2)] := hl
  unfold f_L_isAhead at hf
  obtain ⟨H, eH⟩ : ∃ H, H = s.heap := ⟨_, rfl⟩
  obtain ⟨locs, eL⟩ : ∃ L : List Loc, L = [] := ⟨_, rfl⟩
  rw [← eH, ← eL] at hw ⊢
  clear eH eL
  have B563 : ∀ (O : XO) (K : RK) (x3 : Int64) (y0 : Int32) (H : Heap) (locs : List Loc) (ls : Array Slot), f_L_isAhead_b563 O K x3 y0 = some (r, O', K') → WH D cI cR A (xws cI cR ad O K) s H locs → lv_has ls 14 [(0, .ref (ad 0)), (3, .long x3)] → W p l e (headSpec wsL_isAhead ({ frames := 7, cells := 0, slots := 0, locals := 150 })).room s m ([.ref (ad 0), .int a1, .int a2] : List Value).toArray below meth c H locs 0 0 (MQ below (QV (some (.int r)) D A (xws cI cR ad O' K')) (([.ref (ad 0), .int a1, .int a2] : List Value)).toArray s 0 0 A) (F0 m 563 ls [.int y0]) := by
    intro O K x3 y0 H locs ls hf hw hl
    unfold f_L_isAhead_b563 at hf
    refine lv_istore (lv' := [(8, .int y0), (0, .ref (ad 0)), (3, .long x3)]) hx hb dL_isAhead_563 hl (by decide) rfl (fun ls hl => ?_)
    refine lv_iload hx hb dL_isAhead_565 (lv_at hl 0 rfl) ?_
    refine lv_if_eq (tgt := 583) hx hb dL_isAhead_567 (by decide) (fun hc => ?_) (fun hc => ?_)
    · have hf := iteT hf hc
      refine lv_iconst (v := 0) hx hb dL_isAhead_583 (by decide) ?_
      cases hf
      exact q_zret hx hb hr nb_0 hlocks hw dL_isAhead_584
    · have hf := iteF hf hc
      refine lv_aload_n hx hb dL_isAhead_570 rfl (lv_at hl 1 rfl) ?_
      obtain ⟨r1, hr1, hf⟩ := bndS hf
      refine q_callS (rest := []) (st1 := [.long r1]) [.ref (ad 0)] ⟨hx, hb, hml, hown, hts⟩ (c_L_looks hr1) (va_cwS 1 hts gL_isAhead_L_looks rfl rfl rfl (by decide +kernel) ⟨Nat.le_of_ble_eq_true rfl, Nat.le_of_ble_eq_true rfl⟩) hw rfl hl.1 rfl (Nat.le_of_ble_eq_true rfl) dL_isAhead_571 ⟨Nat.zero_le _, Nat.zero_le _⟩ rfl (fun H locs hw => ?_)
      refine lv_lload_n hx hb dL_isAhead_574 rfl (lv_at hl 2 rfl) ?_
      refine W.lcmp hx hb dL_isAhead_575 ?_
      refine lv_if_ne (tgt := 583) hx hb dL_isAhead_576 (by decide) (fun hc => ?_) (fun hc => ?_)
      · have hf := iteF hf hc
        refine lv_iconst (v := 0) hx hb dL_isAhead_583 (by decide) ?_
        cases hf
        exact q_zret hx hb hr nb_0 hlocks hw dL_isAhead_584
      · have hf := iteT hf hc
        refine lv_iconst (v := 1) hx hb dL_isAhead_579 (by decide) ?_
        refine lv_goto (tgt := 584) hx hb dL_isAhead_580 (by decide) ?_
        cases hf
        exact q_zret hx hb hr nb_1 hlocks hw dL_isAhead_584
  have B562 : ∀ (O : XO) (K : RK) (x3 : Int64) (H : Heap) (locs : List Loc) (ls : Array Slot), f_L_isAhead_b562 O K x3 = some (r, O', K') → WH D cI cR A (xws cI cR ad O K) s H locs → lv_has ls 14 [(0, .ref (ad 0)), (3, .long x3)] → W p l e (headSpec wsL_isAhead ({ frames := 7, cells := 0, slots := 0, locals := 150 })).room s m ([.ref (ad 0), .int a1, .int a2] : List Value).toArray below meth c H locs 0 0 (MQ below (QV (some (.int r)) D A (xws cI cR ad O' K')) (([.ref (ad 0), .int a1, .int a2] : List Value)).toArray s 0 0 A) (F0 m 562 ls []) := by
    intro O K x3 H locs ls hf hw hl
    unfold f_L_isAhead_b562 at hf
    refine lv_iconst (v := 0) hx hb dL_isAhead_562 (by decide) ?_
    exact B563 O K x3 0 H locs ls hf hw (lv_sub hl [0, 1] rfl)
  have B551 : ∀ (O : XO) (K : RK) (x3 : Int64) (H : Heap) (locs : List Loc) (ls : Array Slot), f_L_isAhead_b551 O K x3 = some (r, O', K') → WH D cI cR A (xws cI cR ad O K) s H locs → lv_has ls 14 [(0, .ref (ad 0)), (3, .long x3)] → W p l e (headSpec wsL_isAhead ({ frames := 7, cells := 0, slots := 0, locals := 150 })).room s m ([.ref (ad 0), .int a1, .int a2] : List Value).toArray below meth c H locs 0 0 (MQ below (QV (some (.int r)) D A (xws cI cR ad O' K')) (([.ref (ad 0), .int a1, .int a2] : List Value)).toArray s 0 0 A) (F0 m 551 ls []) := by
    intro O K x3 H locs ls hf hw hl
    unfold f_L_isAhead_b551 at hf
    refine lv_aload_n hx hb dL_isAhead_551 rfl (lv_at hl 0 rfl) ?_
    obtain ⟨r1, O2, K3, hr3, hf⟩ := bnd3S hf
    refine q_callV (rest := []) (st1 := [.int r1]) [] ⟨hx, hb, hml, hown, hts⟩ (c_X5_undo hr3) (cwV 0 hts gL_isAhead_X5_undo rfl rfl rfl (by decide +kernel) ⟨Nat.le_of_ble_eq_true rfl, Nat.le_of_ble_eq_true rfl⟩) hw xa_0 rfl rfl hl.1 rfl (Nat.le_of_ble_eq_true rfl) dL_isAhead_552 ⟨Nat.zero_le _, Nat.zero_le _⟩ rfl (fun H locs hw => ?_)
    refine lv_if_lt (tgt := 562) hx hb dL_isAhead_555 (by decide) (fun hc => ?_) (fun hc => ?_)
    · have hf := iteT hf hc
      exact B562 O2 K3 x3 H locs ls hf hw (lv_sub hl [0, 1] rfl)
    · have hf := iteF hf hc
      refine lv_iconst (v := 1) hx hb dL_isAhead_558 (by decide) ?_
      refine lv_goto (tgt := 563) hx hb dL_isAhead_559 (by decide) ?_
      exact B563 O2 K3 x3 1 H locs ls hf hw (lv_sub hl [0, 1] rfl)
  have B493 : ∀ (O : XO) (K : RK) (x1 : Int32) (x3 : Int64) (y0 : Int32) (H : Heap) (locs : List Loc) (ls : Array Slot), f_L_isAhead_b493 O K x1 x3 y0 = some (r, O', K') → WH D cI cR A (xws cI cR ad O K) s H locs → lv_has ls 14 [(0, .ref (ad 0)), (1, .int x1), (3, .long x3)] → W p l e (headSpec wsL_isAhead ({ frames := 7, cells := 0, slots := 0, locals := 150 })).room s m ([.ref (ad 0), .int a1, .int a2] : List Value).toArray below meth c H locs 0 0 (MQ below (QV (some (.int r)) D A (xws cI cR ad O' K')) (([.ref (ad 0), .int a1, .int a2] : List Value)).toArray s 0 0 A) (F0 m 493 ls [.int y0]) := by
    intro O K x1 x3 y0 H locs ls hf hw hl
    unfold f_L_isAhead_b493 at hf
    refine lv_istore (lv' := [(8, .int y0), (0, .ref (ad 0)), (1, .int x1), (3, .long x3)]) hx hb dL_isAhead_493 hl (by decide) rfl (fun ls hl => ?_)
    refine lv_aload_n hx hb dL_isAhead_495 rfl (lv_at hl 1 rfl) ?_
    refine lv_iload_n hx hb dL_isAhead_496 rfl (lv_at hl 2 rfl) ?_
    refine lv_iconst (v := 2) hx hb dL_isAhead_497 (by decide) ?_
    obtain ⟨r1, hr1, hf⟩ := bndS hf
    refine q_callV (rest := []) (st1 := [.int r1]) [.int x1, .int 2] ⟨hx, hb, hml, hown, hts⟩ (c_X5_guest hr1) (cwV 2 hts gL_isAhead_X5_guest rfl rfl rfl (by decide +kernel) ⟨Nat.le_of_ble_eq_true rfl, Nat.le_of_ble_eq_true rfl⟩) hw xa_0 rfl rfl hl.1 rfl (Nat.le_of_ble_eq_true rfl) dL_isAhead_498 ⟨Nat.zero_le _, Nat.zero_le _⟩ rfl (fun H locs hw => ?_)
    refine lv_istore (lv' := [(12, .int r1), (8, .int y0), (0, .ref (ad 0)), (1, .int x1), (3, .long x3)]) hx hb dL_isAhead_501 hl (by decide) rfl (fun ls hl => ?_)
    refine lv_iload hx hb dL_isAhead_503 (lv_at hl 1 rfl) ?_
    refine lv_if_eq (tgt := 562) hx hb dL_isAhead_505 (by decide) (fun hc => ?_) (fun hc => ?_)
    · have hf := iteT hf hc
      exact B562 O K x3 H locs ls hf hw (lv_sub hl [2, 4] rfl)
    · have hf := iteF hf hc
      refine lv_aload_n hx hb dL_isAhead_508 rfl (lv_at hl 2 rfl) ?_
      refine lv_iload_n hx hb dL_isAhead_509 rfl (lv_at hl 3 rfl) ?_
      obtain ⟨r2, O3, K4, hr4, hf⟩ := bnd3S hf
      refine q_callV (rest := []) (st1 := [.int r2]) [.int x1] ⟨hx, hb, hml, hown, hts⟩ (c_X5_pay hr4) (cwV 1 hts gL_isAhead_X5_pay rfl rfl rfl (by decide +kernel) ⟨Nat.le_of_ble_eq_true rfl, Nat.le_of_ble_eq_true rfl⟩) hw xa_0 rfl rfl hl.1 rfl (Nat.le_of_ble_eq_true rfl) dL_isAhead_510 ⟨Nat.zero_le _, Nat.zero_le _⟩ rfl (fun H locs hw => ?_)
      refine lv_aload_n hx hb dL_isAhead_513 rfl (lv_at hl 2 rfl) ?_
      refine lv_iload_n hx hb dL_isAhead_514 rfl (lv_at hl 3 rfl) ?_
      refine lv_iconst (v := 2) hx hb dL_isAhead_515 (by decide) ?_
      obtain ⟨r5, hr5, hf⟩ := bndS hf
      refine q_callV (rest := [.int r2]) (st1 := [.int r5, .int r2]) [.int x1, .int 2] ⟨hx, hb, hml, hown, hts⟩ (c_X5_guest hr5) (cwV 2 hts gL_isAhead_X5_guest rfl rfl rfl (by decide +kernel) ⟨Nat.le_of_ble_eq_true rfl, Nat.le_of_ble_eq_true rfl⟩) hw xa_0 rfl rfl hl.1 rfl (Nat.le_of_ble_eq_true rfl) dL_isAhead_516 ⟨Nat.zero_le _, Nat.zero_le _⟩ rfl (fun H locs hw => ?_)
      refine lv_icmp_ne (tgt := 562) hx hb dL_isAhead_519 (by decide) (fun hc => ?_) (fun hc => ?_)
      · have hf := iteF hf hc
        exact B562 O3 K4 x3 H locs ls hf hw (lv_sub hl [2, 4] rfl)
      · have hf := iteT hf hc
        refine lv_aload_n hx hb dL_isAhead_522 rfl (lv_at hl 2 rfl) ?_
        refine lv_iload_n hx hb dL_isAhead_523 rfl (lv_at hl 3 rfl) ?_
        refine lv_iconst (v := 2) hx hb dL_isAhead_524 (by decide) ?_
        obtain ⟨r6, hr6, hf⟩ := bndS hf
        refine q_callV (rest := []) (st1 := [.int r6]) [.int x1, .int 2] ⟨hx, hb, hml, hown, hts⟩ (c_X5_guest hr6) (cwV 2 hts gL_isAhead_X5_guest rfl rfl rfl (by decide +kernel) ⟨Nat.le_of_ble_eq_true rfl, Nat.le_of_ble_eq_true rfl⟩) hw xa_0 rfl rfl hl.1 rfl (Nat.le_of_ble_eq_true rfl) dL_isAhead_525 ⟨Nat.zero_le _, Nat.zero_le _⟩ rfl (fun H locs hw => ?_)
        refine lv_iload hx hb dL_isAhead_528 (lv_at hl 0 rfl) ?_
        refine lv_icmp_gt (tgt := 562) hx hb dL_isAhead_530 (by decide) (fun hc => ?_) (fun hc => ?_)
        · have hf := iteT hf hc
          exact B562 O3 K4 x3 H locs ls hf hw (lv_sub hl [2, 4] rfl)
        · have hf := iteF hf hc
          refine lv_aload_n hx hb dL_isAhead_533 rfl (lv_at hl 2 rfl) ?_
          refine lv_iload_n hx hb dL_isAhead_534 rfl (lv_at hl 3 rfl) ?_
          refine lv_iconst (v := 1) hx hb dL_isAhead_535 (by decide) ?_
          obtain ⟨r7, hr7, hf⟩ := bndS hf
          refine q_callV (rest := []) (st1 := [.int r7]) [.int x1, .int 1] ⟨hx, hb, hml, hown, hts⟩ (c_X5_guest hr7) (cwV 2 hts gL_isAhead_X5_guest rfl rfl rfl (by decide +kernel) ⟨Nat.le_of_ble_eq_true rfl, Nat.le_of_ble_eq_true rfl⟩) hw xa_0 rfl rfl hl.1 rfl (Nat.le_of_ble_eq_true rfl) dL_isAhead_536 ⟨Nat.zero_le _, Nat.zero_le _⟩ rfl (fun H locs hw => ?_)
          refine lv_if_eq (tgt := 551) hx hb dL_isAhead_539 (by decide) (fun hc => ?_) (fun hc => ?_)
          · have hf := iteT hf hc
            exact B551 O3 K4 x3 H locs ls hf hw (lv_sub hl [2, 4] rfl)
          · have hf := iteF hf hc
            refine lv_aload_n hx hb dL_isAhead_542 rfl (lv_at hl 2 rfl) ?_
            refine lv_iload_n hx hb dL_isAhead_543 rfl (lv_at hl 3 rfl) ?_
            refine lv_iconst (v := 2) hx hb dL_isAhead_544 (by decide) ?_
            obtain ⟨r8, hr8, hf⟩ := bndS hf
            refine q_callV (rest := []) (st1 := [.int r8]) [.int x1, .int 2] ⟨hx, hb, hml, hown, hts⟩ (c_X5_guest hr8) (cwV 2 hts gL_isAhead_X5_guest rfl rfl rfl (by decide +kernel) ⟨Nat.le_of_ble_eq_true rfl, Nat.le_of_ble_eq_true rfl⟩) hw xa_0 rfl rfl hl.1 rfl (Nat.le_of_ble_eq_true rfl) dL_isAhead_545 ⟨Nat.zero_le _, Nat.zero_le _⟩ rfl (fun H locs hw => ?_)
            refine lv_if_ne (tgt := 562) hx hb dL_isAhead_548 (by decide) (fun hc => ?_) (fun hc => ?_)
            · have hf := iteF hf hc
              exact B562 O3 K4 x3 H locs ls hf hw (lv_sub hl [2, 4] rfl)
            · have hf := iteT hf hc
              exact B551 O3 K4 x3 H locs ls hf hw (lv_sub hl [2, 4] rfl)
  have B492 : ∀ (O : XO) (K : RK) (x1 : Int32) (x3 : Int64) (H : Heap) (locs : List Loc) (ls : Array Slot), f_L_isAhead_b492 O K x1 x3 = some (r, O', K') → WH D cI cR A (xws cI cR ad O K) s H locs → lv_has ls 14 [(0, .ref (ad 0)), (1, .int x1), (3, .long x3)] → W p l e (headSpec wsL_isAhead ({ frames := 7, cells := 0, slots := 0, locals := 150 })).room s m ([.ref (ad 0), .int a1, .int a2] : List Value).toArray below meth c H locs 0 0 (MQ below (QV (some (.int r)) D A (xws cI cR ad O' K')) (([.ref (ad 0), .int a1, .int a2] : List Value)).toArray s 0 0 A) (F0 m 492 ls []) := by
    intro O K x1 x3 H locs ls hf hw hl
    unfold f_L_isAhead_b492 at hf
    refine lv_iconst (v := 0) hx hb dL_isAhead_492 (by decide) ?_
    exact B493 O K x1 x3 0 H locs ls hf hw (lv_sub hl [0, 1, 2] rfl)
  have B416 : ∀ (O : XO) (K : RK) (x1 : Int32) (x3 : Int64) (x8 : Int32) (H : Heap) (locs : List Loc) (ls : Array Slot), f_L_isAhead_b416 O K x1 x3 x8 = some (r, O', K') → WH D cI cR A (xws cI cR ad O K) s H locs → lv_has ls 14 [(0, .ref (ad 0)), (1, .int x1), (3, .long x3), (8, .int x8)] → W p l e (headSpec wsL_isAhead ({ frames := 7, cells := 0, slots := 0, locals := 150 })).room s m ([.ref (ad 0), .int a1, .int a2] : List Value).toArray below meth c H locs 0 0 (MQ below (QV (some (.int r)) D A (xws cI cR ad O' K')) (([.ref (ad 0), .int a1, .int a2] : List Value)).toArray s 0 0 A) (F0 m 416 ls []) := by
    intro O K x1 x3 x8 H locs ls hf hw hl
    unfold f_L_isAhead_b416 at hf
    refine lv_aload_n hx hb dL_isAhead_416 rfl (lv_at hl 0 rfl) ?_
    refine lv_iconst (v := 2) hx hb dL_isAhead_417 (by decide) ?_
    obtain ⟨r1, hr1, hf⟩ := bndS hf
    refine q_callV (rest := []) (st1 := [.int r1]) [.int 2] ⟨hx, hb, hml, hown, hts⟩ (c_X5_count hr1) (cwV 1 hts gL_isAhead_X5_count rfl rfl rfl (by decide +kernel) ⟨Nat.le_of_ble_eq_true rfl, Nat.le_of_ble_eq_true rfl⟩) hw xa_0 rfl rfl hl.1 rfl (Nat.le_of_ble_eq_true rfl) dL_isAhead_418 ⟨Nat.zero_le _, Nat.zero_le _⟩ rfl (fun H locs hw => ?_)
    refine lv_istore (lv' := [(10, .int r1), (0, .ref (ad 0)), (1, .int x1), (3, .long x3), (8, .int x8)]) hx hb dL_isAhead_421 hl (by decide) rfl (fun ls hl => ?_)
    refine lv_aload_n hx hb dL_isAhead_423 rfl (lv_at hl 1 rfl) ?_
    refine lv_iconst (v := 0) hx hb dL_isAhead_424 (by decide) ?_
    obtain ⟨r2, hr2, hf⟩ := bndS hf
    refine q_callV (rest := []) (st1 := [.int r2]) [.int 0] ⟨hx, hb, hml, hown, hts⟩ (c_X5_count hr2) (cwV 1 hts gL_isAhead_X5_count rfl rfl rfl (by decide +kernel) ⟨Nat.le_of_ble_eq_true rfl, Nat.le_of_ble_eq_true rfl⟩) hw xa_0 rfl rfl hl.1 rfl (Nat.le_of_ble_eq_true rfl) dL_isAhead_425 ⟨Nat.zero_le _, Nat.zero_le _⟩ rfl (fun H locs hw => ?_)
    refine lv_istore (lv' := [(11, .int r2), (10, .int r1), (0, .ref (ad 0)), (1, .int x1), (3, .long x3), (8, .int x8)]) hx hb dL_isAhead_428 hl (by decide) rfl (fun ls hl => ?_)
    refine lv_iload hx hb dL_isAhead_430 (lv_at hl 5 rfl) ?_
    refine lv_if_eq (tgt := 492) hx hb dL_isAhead_432 (by decide) (fun hc => ?_) (fun hc => ?_)
    · have hf := iteT hf hc
      exact B492 O K x1 x3 H locs ls hf hw (lv_sub hl [2, 3, 4] rfl)
    · have hf := iteF hf hc
      refine lv_aload_n hx hb dL_isAhead_435 rfl (lv_at hl 2 rfl) ?_
      obtain ⟨r3, O4, K5, hr5, hf⟩ := bnd3S hf
      refine q_callV (rest := []) (st1 := [.int r3]) [] ⟨hx, hb, hml, hown, hts⟩ (c_X5_night hr5) (cwV 0 hts gL_isAhead_X5_night rfl rfl rfl (by decide +kernel) ⟨Nat.le_of_ble_eq_true rfl, Nat.le_of_ble_eq_true rfl⟩) hw xa_0 rfl rfl hl.1 rfl (Nat.le_of_ble_eq_true rfl) dL_isAhead_436 ⟨Nat.zero_le _, Nat.zero_le _⟩ rfl (fun H locs hw => ?_)
      refine lv_iload hx hb dL_isAhead_439 (lv_at hl 1 rfl) ?_
      refine lv_icmp_ne (tgt := 492) hx hb dL_isAhead_441 (by decide) (fun hc => ?_) (fun hc => ?_)
      · have hf := iteF hf hc
        exact B492 O4 K5 x1 x3 H locs ls hf hw (lv_sub hl [2, 3, 4] rfl)
      · have hf := iteT hf hc
        refine lv_aload_n hx hb dL_isAhead_444 rfl (lv_at hl 2 rfl) ?_
        refine lv_iconst (v := 2) hx hb dL_isAhead_445 (by decide) ?_
        obtain ⟨r6, hr6, hf⟩ := bndS hf
        refine q_callV (rest := []) (st1 := [.int r6]) [.int 2] ⟨hx, hb, hml, hown, hts⟩ (c_X5_count hr6) (cwV 1 hts gL_isAhead_X5_count rfl rfl rfl (by decide +kernel) ⟨Nat.le_of_ble_eq_true rfl, Nat.le_of_ble_eq_true rfl⟩) hw xa_0 rfl rfl hl.1 rfl (Nat.le_of_ble_eq_true rfl) dL_isAhead_446 ⟨Nat.zero_le _, Nat.zero_le _⟩ rfl (fun H locs hw => ?_)
        refine lv_if_ne (tgt := 492) hx hb dL_isAhead_449 (by decide) (fun hc => ?_) (fun hc => ?_)
        · have hf := iteF hf hc
          exact B492 O4 K5 x1 x3 H locs ls hf hw (lv_sub hl [2, 3, 4] rfl)
        · have hf := iteT hf hc
          refine lv_aload_n hx hb dL_isAhead_452 rfl (lv_at hl 2 rfl) ?_
          refine lv_iconst (v := 3) hx hb dL_isAhead_453 (by decide) ?_
          obtain ⟨r7, hr7, hf⟩ := bndS hf
          refine q_callV (rest := []) (st1 := [.int r7]) [.int 3] ⟨hx, hb, hml, hown, hts⟩ (c_X5_count hr7) (cwV 1 hts gL_isAhead_X5_count rfl rfl rfl (by decide +kernel) ⟨Nat.le_of_ble_eq_true rfl, Nat.le_of_ble_eq_true rfl⟩) hw xa_0 rfl rfl hl.1 rfl (Nat.le_of_ble_eq_true rfl) dL_isAhead_454 ⟨Nat.zero_le _, Nat.zero_le _⟩ rfl (fun H locs hw => ?_)
          refine lv_if_ne (tgt := 492) hx hb dL_isAhead_457 (by decide) (fun hc => ?_) (fun hc => ?_)
          · have hf := iteF hf hc
            exact B492 O4 K5 x1 x3 H locs ls hf hw (lv_sub hl [2, 3, 4] rfl)
          · have hf := iteT hf hc
            refine lv_aload_n hx hb dL_isAhead_460 rfl (lv_at hl 2 rfl) ?_
            refine lv_bipush (v := 14) hx hb dL_isAhead_461 (by decide) ?_
            obtain ⟨r8, hr8, hf⟩ := bndS hf
            refine q_callV (rest := []) (st1 := [.int r8]) [.int 14] ⟨hx, hb, hml, hown, hts⟩ (c_X5_count hr8) (cwV 1 hts gL_isAhead_X5_count rfl rfl rfl (by decide +kernel) ⟨Nat.le_of_ble_eq_true rfl, Nat.le_of_ble_eq_true rfl⟩) hw xa_0 rfl rfl hl.1 rfl (Nat.le_of_ble_eq_true rfl) dL_isAhead_463 ⟨Nat.zero_le _, Nat.zero_le _⟩ rfl (fun H locs hw => ?_)
            refine lv_if_ne (tgt := 492) hx hb dL_isAhead_466 (by decide) (fun hc => ?_) (fun hc => ?_)
            · have hf := iteF hf hc
              exact B492 O4 K5 x1 x3 H locs ls hf hw (lv_sub hl [2, 3, 4] rfl)
            · have hf := iteT hf hc
              refine lv_aload_n hx hb dL_isAhead_469 rfl (lv_at hl 2 rfl) ?_
              refine lv_iconst (v := 0) hx hb dL_isAhead_470 (by decide) ?_
              obtain ⟨r9, hr9, hf⟩ := bndS hf
              refine q_callV (rest := []) (st1 := [.int r9]) [.int 0] ⟨hx, hb, hml, hown, hts⟩ (c_X5_count hr9) (cwV 1 hts gL_isAhead_X5_count rfl rfl rfl (by decide +kernel) ⟨Nat.le_of_ble_eq_true rfl, Nat.le_of_ble_eq_true rfl⟩) hw xa_0 rfl rfl hl.1 rfl (Nat.le_of_ble_eq_true rfl) dL_isAhead_471 ⟨Nat.zero_le _, Nat.zero_le _⟩ rfl (fun H locs hw => ?_)
              refine lv_iload hx hb dL_isAhead_474 (lv_at hl 0 rfl) ?_
              refine lv_iconst (v := 1) hx hb dL_isAhead_476 (by decide) ?_
              refine lv_iadd hx hb dL_isAhead_477 ?_
              refine lv_icmp_ne (tgt := 492) hx hb dL_isAhead_478 (by decide) (fun hc => ?_) (fun hc => ?_)
              · have hf := iteF hf hc
                exact B492 O4 K5 x1 x3 H locs ls hf hw (lv_sub hl [2, 3, 4] rfl)
              · have hf := iteT hf hc
                refine lv_aload_n hx hb dL_isAhead_481 rfl (lv_at hl 2 rfl) ?_
                obtain ⟨r10, O11, K12, hr12, hf⟩ := bnd3S hf
                refine q_callV (rest := []) (st1 := [.int r10]) [] ⟨hx, hb, hml, hown, hts⟩ (c_X5_undo hr12) (cwV 0 hts gL_isAhead_X5_undo rfl rfl rfl (by decide +kernel) ⟨Nat.le_of_ble_eq_true rfl, Nat.le_of_ble_eq_true rfl⟩) hw xa_0 rfl rfl hl.1 rfl (Nat.le_of_ble_eq_true rfl) dL_isAhead_482 ⟨Nat.zero_le _, Nat.zero_le _⟩ rfl (fun H locs hw => ?_)
                refine lv_if_lt (tgt := 492) hx hb dL_isAhead_485 (by decide) (fun hc => ?_) (fun hc => ?_)
                · have hf := iteT hf hc
                  exact B492 O11 K12 x1 x3 H locs ls hf hw (lv_sub hl [2, 3, 4] rfl)
                · have hf := iteF hf hc
                  refine lv_iconst (v := 1) hx hb dL_isAhead_488 (by decide) ?_
                  refine lv_goto (tgt := 493) hx hb dL_isAhead_489 (by decide) ?_
                  exact B493 O11 K12 x1 x3 1 H locs ls hf hw (lv_sub hl [2, 3, 4] rfl)
  have B414 : ∀ (O : XO) (K : RK) (x1 : Int32) (x3 : Int64) (y0 : Int32) (H : Heap) (locs : List Loc) (ls : Array Slot), f_L_isAhead_b414 O K x1 x3 y0 = some (r, O', K') → WH D cI cR A (xws cI cR ad O K) s H locs → lv_has ls 14 [(0, .ref (ad 0)), (1, .int x1), (3, .long x3)] → W p l e (headSpec wsL_isAhead ({ frames := 7, cells := 0, slots := 0, locals := 150 })).room s m ([.ref (ad 0), .int a1, .int a2] : List Value).toArray below meth c H locs 0 0 (MQ below (QV (some (.int r)) D A (xws cI cR ad O' K')) (([.ref (ad 0), .int a1, .int a2] : List Value)).toArray s 0 0 A) (F0 m 414 ls [.int y0]) := by
    intro O K x1 x3 y0 H locs ls hf hw hl
    unfold f_L_isAhead_b414 at hf
    refine lv_istore (lv' := [(8, .int y0), (0, .ref (ad 0)), (1, .int x1), (3, .long x3)]) hx hb dL_isAhead_414 hl (by decide) rfl (fun ls hl => ?_)
    exact B416 O K x1 x3 y0 H locs ls hf hw (lv_sub hl [1, 2, 3, 0] rfl)
  have B413 : ∀ (O : XO) (K : RK) (x1 : Int32) (x3 : Int64) (H : Heap) (locs : List Loc) (ls : Array Slot), f_L_isAhead_b413 O K x1 x3 = some (r, O', K') → WH D cI cR A (xws cI cR ad O K) s H locs → lv_has ls 14 [(0, .ref (ad 0)), (1, .int x1), (3, .long x3)] → W p l e (headSpec wsL_isAhead ({ frames := 7, cells := 0, slots := 0, locals := 150 })).room s m ([.ref (ad 0), .int a1, .int a2] : List Value).toArray below meth c H locs 0 0 (MQ below (QV (some (.int r)) D A (xws cI cR ad O' K')) (([.ref (ad 0), .int a1, .int a2] : List Value)).toArray s 0 0 A) (F0 m 413 ls []) := by
    intro O K x1 x3 H locs ls hf hw hl
    unfold f_L_isAhead_b413 at hf
    refine lv_iconst (v := 0) hx hb dL_isAhead_413 (by decide) ?_
    exact B414 O K x1 x3 0 H locs ls hf hw (lv_sub hl [0, 1, 2] rfl)
  have B402 : ∀ (O : XO) (K : RK) (x1 : Int32) (x3 : Int64) (H : Heap) (locs : List Loc) (ls : Array Slot), f_L_isAhead_b402 O K x1 x3 = some (r, O', K') → WH D cI cR A (xws cI cR ad O K) s H locs → lv_has ls 14 [(0, .ref (ad 0)), (1, .int x1), (3, .long x3)] → W p l e (headSpec wsL_isAhead ({ frames := 7, cells := 0, slots := 0, locals := 150 })).room s m ([.ref (ad 0), .int a1, .int a2] : List Value).toArray below meth c H locs 0 0 (MQ below (QV (some (.int r)) D A (xws cI cR ad O' K')) (([.ref (ad 0), .int a1, .int a2] : List Value)).toArray s 0 0 A) (F0 m 402 ls []) := by
    intro O K x1 x3 H locs ls hf hw hl
    unfold f_L_isAhead_b402 at hf
    refine lv_aload_n hx hb dL_isAhead_402 rfl (lv_at hl 0 rfl) ?_
    obtain ⟨r1, O2, K3, hr3, hf⟩ := bnd3S hf
    refine q_callV (rest := []) (st1 := [.int r1]) [] ⟨hx, hb, hml, hown, hts⟩ (c_X5_undo hr3) (cwV 0 hts gL_isAhead_X5_undo rfl rfl rfl (by decide +kernel) ⟨Nat.le_of_ble_eq_true rfl, Nat.le_of_ble_eq_true rfl⟩) hw xa_0 rfl rfl hl.1 rfl (Nat.le_of_ble_eq_true rfl) dL_isAhead_403 ⟨Nat.zero_le _, Nat.zero_le _⟩ rfl (fun H locs hw => ?_)
    refine lv_if_lt (tgt := 413) hx hb dL_isAhead_406 (by decide) (fun hc => ?_) (fun hc => ?_)
    · have hf := iteT hf hc
      exact B413 O2 K3 x1 x3 H locs ls hf hw (lv_sub hl [0, 1, 2] rfl)
    · have hf := iteF hf hc
      refine lv_iconst (v := 1) hx hb dL_isAhead_409 (by decide) ?_
      refine lv_goto (tgt := 414) hx hb dL_isAhead_410 (by decide) ?_
      exact B414 O2 K3 x1 x3 1 H locs ls hf hw (lv_sub hl [0, 1, 2] rfl)
  have L208 : ∀ (n208 : Nat) (O : XO) (K : RK) (x1 : Int32) (x2 : Int32) (x3 : Int64) (x8 : Int32) (x9 : Int32) (x10 : Int32) (H : Heap) (locs : List Loc) (ls : Array Slot), f_L_isAhead_l208 n208 O K x1 x2 x3 x8 x9 x10 = some (r, O', K') → WH D cI cR A (xws cI cR ad O K) s H locs → lv_has ls 14 [(0, .ref (ad 0)), (1, .int x1), (2, .int x2), (3, .long x3), (8, .int x8), (9, .int x9), (10, .int x10)] → W p l e (headSpec wsL_isAhead ({ frames := 7, cells := 0, slots := 0, locals := 150 })).room s m ([.ref (ad 0), .int a1, .int a2] : List Value).toArray below meth c H locs 0 0 (MQ below (QV (some (.int r)) D A (xws cI cR ad O' K')) (([.ref (ad 0), .int a1, .int a2] : List Value)).toArray s 0 0 A) (F0 m 208 ls []) := by
    intro n208
    induction n208 with
    | zero => intro O K x1 x2 x3 x8 x9 x10 H locs ls hf; cases hf
    | succ n208 ih =>
      have ih208 := ih
      have B248 : ∀ (O : XO) (K : RK) (x1 : Int32) (x2 : Int32) (x3 : Int64) (x8 : Int32) (x10 : Int32) (y0 : Int32) (H : Heap) (locs : List Loc) (ls : Array Slot), f_L_isAhead_b248 (f_L_isAhead_l208 n208) O K x1 x2 x3 x8 x10 y0 = some (r, O', K') → WH D cI cR A (xws cI cR ad O K) s H locs → lv_has ls 14 [(0, .ref (ad 0)), (1, .int x1), (2, .int x2), (3, .long x3), (8, .int x8), (10, .int x10)] → W p l e (headSpec wsL_isAhead ({ frames := 7, cells := 0, slots := 0, locals := 150 })).room s m ([.ref (ad 0), .int a1, .int a2] : List Value).toArray below meth c H locs 0 0 (MQ below (QV (some (.int r)) D A (xws cI cR ad O' K')) (([.ref (ad 0), .int a1, .int a2] : List Value)).toArray s 0 0 A) (F0 m 248 ls [.int y0]) := by
        intro O K x1 x2 x3 x8 x10 y0 H locs ls hf hw hl
        unfold f_L_isAhead_b248 at hf
        refine lv_istore (lv' := [(9, .int y0), (0, .ref (ad 0)), (1, .int x1), (2, .int x2), (3, .long x3), (8, .int x8), (10, .int x10)]) hx hb dL_isAhead_248 hl (by decide) rfl (fun ls hl => ?_)
        obtain ⟨v1, hv1, hf⟩ := nmE hf
        refine lv_iinc (v := v1) (lv' := [(10, .int v1), (9, .int y0), (0, .ref (ad 0)), (1, .int x1), (2, .int x2), (3, .long x3), (8, .int x8)]) hx hb dL_isAhead_250 hl (k := 6) rfl (by rw [hv1]; rfl) (by decide) rfl (fun ls hl => ?_)
        refine lv_goto (tgt := 208) hx hb dL_isAhead_253 (by decide) ?_
        exact ih208 O K x1 x2 x3 x8 y0 v1 H locs ls hf hw (lv_sub hl [2, 3, 4, 5, 6, 1, 0] rfl)
      have B246 : ∀ (O : XO) (K : RK) (x1 : Int32) (x2 : Int32) (x3 : Int64) (x8 : Int32) (x9 : Int32) (x10 : Int32) (H : Heap) (locs : List Loc) (ls : Array Slot), f_L_isAhead_b246 (f_L_isAhead_l208 n208) O K x1 x2 x3 x8 x9 x10 = some (r, O', K') → WH D cI cR A (xws cI cR ad O K) s H locs → lv_has ls 14 [(0, .ref (ad 0)), (1, .int x1), (2, .int x2), (3, .long x3), (8, .int x8), (9, .int x9), (10, .int x10)] → W p l e (headSpec wsL_isAhead ({ frames := 7, cells := 0, slots := 0, locals := 150 })).room s m ([.ref (ad 0), .int a1, .int a2] : List Value).toArray below meth c H locs 0 0 (MQ below (QV (some (.int r)) D A (xws cI cR ad O' K')) (([.ref (ad 0), .int a1, .int a2] : List Value)).toArray s 0 0 A) (F0 m 246 ls []) := by
        intro O K x1 x2 x3 x8 x9 x10 H locs ls hf hw hl
        unfold f_L_isAhead_b246 at hf
        refine lv_iload hx hb dL_isAhead_246 (lv_at hl 5 rfl) ?_
        exact B248 O K x1 x2 x3 x8 x10 x9 H locs ls hf hw (lv_sub hl [0, 1, 2, 3, 4, 6] rfl)
      intro O K x1 x2 x3 x8 x9 x10 H locs ls hf hw hl
      simp only [f_L_isAhead_l208] at hf
      refine lv_iload hx hb dL_isAhead_208 (lv_at hl 6 rfl) ?_
      refine lv_aload_n hx hb dL_isAhead_210 rfl (lv_at hl 0 rfl) ?_
      refine lv_iconst (v := 1) hx hb dL_isAhead_211 (by decide) ?_
      obtain ⟨r1, hr1, hf⟩ := bndS hf
      refine q_callV (rest := [.int x10]) (st1 := [.int r1, .int x10]) [.int 1] ⟨hx, hb, hml, hown, hts⟩ (c_X5_count hr1) (cwV 1 hts gL_isAhead_X5_count rfl rfl rfl (by decide +kernel) ⟨Nat.le_of_ble_eq_true rfl, Nat.le_of_ble_eq_true rfl⟩) hw xa_0 rfl rfl hl.1 rfl (Nat.le_of_ble_eq_true rfl) dL_isAhead_212 ⟨Nat.zero_le _, Nat.zero_le _⟩ rfl (fun H locs hw => ?_)
      refine lv_icmp_ge (tgt := 256) hx hb dL_isAhead_215 (by decide) (fun hc => ?_) (fun hc => ?_)
      · have hf := iteT hf hc
        refine lv_iload hx hb dL_isAhead_256 (lv_at hl 4 rfl) ?_
        refine lv_if_eq (tgt := 416) hx hb dL_isAhead_258 (by decide) (fun hc => ?_) (fun hc => ?_)
        · have hf := iteT hf hc
          exact B416 O K x1 x3 x8 H locs ls hf hw (lv_sub hl [0, 1, 3, 4] rfl)
        · have hf := iteF hf hc
          refine lv_iload hx hb dL_isAhead_261 (lv_at hl 5 rfl) ?_
          refine lv_if_lt (tgt := 416) hx hb dL_isAhead_263 (by decide) (fun hc => ?_) (fun hc => ?_)
          · have hf := iteT hf hc
            exact B416 O K x1 x3 x8 H locs ls hf hw (lv_sub hl [0, 1, 3, 4] rfl)
          · have hf := iteF hf hc
            refine lv_aload_n hx hb dL_isAhead_266 rfl (lv_at hl 0 rfl) ?_
            refine lv_iload hx hb dL_isAhead_267 (lv_at hl 5 rfl) ?_
            refine lv_iload_n hx hb dL_isAhead_269 rfl (lv_at hl 2 rfl) ?_
            refine lv_iconst (v := 0) hx hb dL_isAhead_270 (by decide) ?_
            obtain ⟨r2, hr2, hf⟩ := bndS hf
            refine q_callV (rest := []) (st1 := [.int r2]) [.int x9, .int x2, .int 0] ⟨hx, hb, hml, hown, hts⟩ (c_X5_ifOpened hr2) (cwV 3 hts gL_isAhead_X5_ifOpened rfl rfl rfl (by decide +kernel) ⟨Nat.le_of_ble_eq_true rfl, Nat.le_of_ble_eq_true rfl⟩) hw xa_0 rfl rfl hl.1 rfl (Nat.le_of_ble_eq_true rfl) dL_isAhead_271 ⟨Nat.zero_le _, Nat.zero_le _⟩ rfl (fun H locs hw => ?_)
            refine lv_istore (lv' := [(10, .int r2), (0, .ref (ad 0)), (1, .int x1), (2, .int x2), (3, .long x3), (8, .int x8), (9, .int x9)]) hx hb dL_isAhead_274 hl (by decide) rfl (fun ls hl => ?_)
            refine lv_aload_n hx hb dL_isAhead_276 rfl (lv_at hl 1 rfl) ?_
            refine lv_iload hx hb dL_isAhead_277 (lv_at hl 6 rfl) ?_
            refine lv_iload_n hx hb dL_isAhead_279 rfl (lv_at hl 3 rfl) ?_
            refine lv_iconst (v := 3) hx hb dL_isAhead_280 (by decide) ?_
            obtain ⟨r3, hr3, hf⟩ := bndS hf
            refine q_callV (rest := []) (st1 := [.int r3]) [.int x9, .int x2, .int 3] ⟨hx, hb, hml, hown, hts⟩ (c_X5_ifOpened hr3) (cwV 3 hts gL_isAhead_X5_ifOpened rfl rfl rfl (by decide +kernel) ⟨Nat.le_of_ble_eq_true rfl, Nat.le_of_ble_eq_true rfl⟩) hw xa_0 rfl rfl hl.1 rfl (Nat.le_of_ble_eq_true rfl) dL_isAhead_281 ⟨Nat.zero_le _, Nat.zero_le _⟩ rfl (fun H locs hw => ?_)
            refine lv_istore (lv' := [(11, .int r3), (10, .int r2), (0, .ref (ad 0)), (1, .int x1), (2, .int x2), (3, .long x3), (8, .int x8), (9, .int x9)]) hx hb dL_isAhead_284 hl (by decide) rfl (fun ls hl => ?_)
            refine lv_aload_n hx hb dL_isAhead_286 rfl (lv_at hl 2 rfl) ?_
            refine lv_bipush (v := 12) hx hb dL_isAhead_287 (by decide) ?_
            obtain ⟨r4, hr4, hf⟩ := bndS hf
            refine q_callV (rest := []) (st1 := [.int r4]) [.int 12] ⟨hx, hb, hml, hown, hts⟩ (c_X5_count hr4) (cwV 1 hts gL_isAhead_X5_count rfl rfl rfl (by decide +kernel) ⟨Nat.le_of_ble_eq_true rfl, Nat.le_of_ble_eq_true rfl⟩) hw xa_0 rfl rfl hl.1 rfl (Nat.le_of_ble_eq_true rfl) dL_isAhead_289 ⟨Nat.zero_le _, Nat.zero_le _⟩ rfl (fun H locs hw => ?_)
            refine lv_istore (lv' := [(12, .int r4), (11, .int r3), (10, .int r2), (0, .ref (ad 0)), (1, .int x1), (2, .int x2), (3, .long x3), (8, .int x8), (9, .int x9)]) hx hb dL_isAhead_292 hl (by decide) rfl (fun ls hl => ?_)
            refine lv_aload_n hx hb dL_isAhead_294 rfl (lv_at hl 3 rfl) ?_
            refine lv_bipush (v := 8) hx hb dL_isAhead_295 (by decide) ?_
            obtain ⟨r5, hr5, hf⟩ := bndS hf
            refine q_callV (rest := []) (st1 := [.int r5]) [.int 8] ⟨hx, hb, hml, hown, hts⟩ (c_X5_count hr5) (cwV 1 hts gL_isAhead_X5_count rfl rfl rfl (by decide +kernel) ⟨Nat.le_of_ble_eq_true rfl, Nat.le_of_ble_eq_true rfl⟩) hw xa_0 rfl rfl hl.1 rfl (Nat.le_of_ble_eq_true rfl) dL_isAhead_297 ⟨Nat.zero_le _, Nat.zero_le _⟩ rfl (fun H locs hw => ?_)
            refine lv_istore (lv' := [(13, .int r5), (12, .int r4), (11, .int r3), (10, .int r2), (0, .ref (ad 0)), (1, .int x1), (2, .int x2), (3, .long x3), (8, .int x8), (9, .int x9)]) hx hb dL_isAhead_300 hl (by decide) rfl (fun ls hl => ?_)
            refine lv_aload_n hx hb dL_isAhead_302 rfl (lv_at hl 4 rfl) ?_
            refine lv_iload_n hx hb dL_isAhead_303 rfl (lv_at hl 6 rfl) ?_
            obtain ⟨r6, O7, K8, hr8, hf⟩ := bnd3S hf
            refine q_callV (rest := []) (st1 := [.int r6]) [.int x2] ⟨hx, hb, hml, hown, hts⟩ (c_X5_open hr8) (cwV 1 hts gL_isAhead_X5_open rfl rfl rfl (by decide +kernel) ⟨Nat.le_of_ble_eq_true rfl, Nat.le_of_ble_eq_true rfl⟩) hw xa_0 rfl rfl hl.1 rfl (Nat.le_of_ble_eq_true rfl) dL_isAhead_304 ⟨Nat.zero_le _, Nat.zero_le _⟩ rfl (fun H locs hw => ?_)
            refine lv_iload hx hb dL_isAhead_307 (lv_at hl 3 rfl) ?_
            refine lv_icmp_ne (tgt := 413) hx hb dL_isAhead_309 (by decide) (fun hc => ?_) (fun hc => ?_)
            · have hf := iteF hf hc
              exact B413 O7 K8 x1 x3 H locs ls hf hw (lv_sub hl [4, 5, 7] rfl)
            · have hf := iteT hf hc
              refine lv_aload_n hx hb dL_isAhead_312 rfl (lv_at hl 4 rfl) ?_
              refine lv_iload hx hb dL_isAhead_313 (lv_at hl 9 rfl) ?_
              refine lv_bipush (v := 7) hx hb dL_isAhead_315 (by decide) ?_
              obtain ⟨r9, hr9, hf⟩ := bndS hf
              refine q_callV (rest := []) (st1 := [.int r9]) [.int x9, .int 7] ⟨hx, hb, hml, hown, hts⟩ (c_X5_guest hr9) (cwV 2 hts gL_isAhead_X5_guest rfl rfl rfl (by decide +kernel) ⟨Nat.le_of_ble_eq_true rfl, Nat.le_of_ble_eq_true rfl⟩) hw xa_0 rfl rfl hl.1 rfl (Nat.le_of_ble_eq_true rfl) dL_isAhead_317 ⟨Nat.zero_le _, Nat.zero_le _⟩ rfl (fun H locs hw => ?_)
              refine lv_iconst (v := 1) hx hb dL_isAhead_320 (by decide) ?_
              refine lv_icmp_ne (tgt := 413) hx hb dL_isAhead_321 (by decide) (fun hc => ?_) (fun hc => ?_)
              · have hf := iteF hf hc
                exact B413 O7 K8 x1 x3 H locs ls hf hw (lv_sub hl [4, 5, 7] rfl)
              · have hf := iteT hf hc
                refine lv_aload_n hx hb dL_isAhead_324 rfl (lv_at hl 4 rfl) ?_
                refine lv_iload hx hb dL_isAhead_325 (lv_at hl 9 rfl) ?_
                refine lv_iconst (v := 2) hx hb dL_isAhead_327 (by decide) ?_
                obtain ⟨r10, hr10, hf⟩ := bndS hf
                refine q_callV (rest := []) (st1 := [.int r10]) [.int x9, .int 2] ⟨hx, hb, hml, hown, hts⟩ (c_X5_guest hr10) (cwV 2 hts gL_isAhead_X5_guest rfl rfl rfl (by decide +kernel) ⟨Nat.le_of_ble_eq_true rfl, Nat.le_of_ble_eq_true rfl⟩) hw xa_0 rfl rfl hl.1 rfl (Nat.le_of_ble_eq_true rfl) dL_isAhead_328 ⟨Nat.zero_le _, Nat.zero_le _⟩ rfl (fun H locs hw => ?_)
                refine lv_iload hx hb dL_isAhead_331 (lv_at hl 2 rfl) ?_
                refine lv_icmp_ne (tgt := 413) hx hb dL_isAhead_333 (by decide) (fun hc => ?_) (fun hc => ?_)
                · have hf := iteF hf hc
                  exact B413 O7 K8 x1 x3 H locs ls hf hw (lv_sub hl [4, 5, 7] rfl)
                · have hf := iteT hf hc
                  refine lv_aload_n hx hb dL_isAhead_336 rfl (lv_at hl 4 rfl) ?_
                  refine lv_bipush (v := 12) hx hb dL_isAhead_337 (by decide) ?_
                  obtain ⟨r11, hr11, hf⟩ := bndS hf
                  refine q_callV (rest := []) (st1 := [.int r11]) [.int 12] ⟨hx, hb, hml, hown, hts⟩ (c_X5_count hr11) (cwV 1 hts gL_isAhead_X5_count rfl rfl rfl (by decide +kernel) ⟨Nat.le_of_ble_eq_true rfl, Nat.le_of_ble_eq_true rfl⟩) hw xa_0 rfl rfl hl.1 rfl (Nat.le_of_ble_eq_true rfl) dL_isAhead_339 ⟨Nat.zero_le _, Nat.zero_le _⟩ rfl (fun H locs hw => ?_)
                  refine lv_iload hx hb dL_isAhead_342 (lv_at hl 1 rfl) ?_
                  refine lv_iload hx hb dL_isAhead_344 (lv_at hl 3 rfl) ?_
                  refine lv_iadd hx hb dL_isAhead_346 ?_
                  refine lv_icmp_ne (tgt := 413) hx hb dL_isAhead_347 (by decide) (fun hc => ?_) (fun hc => ?_)
                  · have hf := iteF hf hc
                    exact B413 O7 K8 x1 x3 H locs ls hf hw (lv_sub hl [4, 5, 7] rfl)
                  · have hf := iteT hf hc
                    refine lv_aload_n hx hb dL_isAhead_350 rfl (lv_at hl 4 rfl) ?_
                    refine lv_bipush (v := 8) hx hb dL_isAhead_351 (by decide) ?_
                    obtain ⟨r12, hr12, hf⟩ := bndS hf
                    refine q_callV (rest := []) (st1 := [.int r12]) [.int 8] ⟨hx, hb, hml, hown, hts⟩ (c_X5_count hr12) (cwV 1 hts gL_isAhead_X5_count rfl rfl rfl (by decide +kernel) ⟨Nat.le_of_ble_eq_true rfl, Nat.le_of_ble_eq_true rfl⟩) hw xa_0 rfl rfl hl.1 rfl (Nat.le_of_ble_eq_true rfl) dL_isAhead_353 ⟨Nat.zero_le _, Nat.zero_le _⟩ rfl (fun H locs hw => ?_)
                    refine lv_iload hx hb dL_isAhead_356 (lv_at hl 0 rfl) ?_
                    refine lv_iload hx hb dL_isAhead_358 (lv_at hl 3 rfl) ?_
                    refine lv_isub hx hb dL_isAhead_360 ?_
                    refine lv_icmp_ne (tgt := 413) hx hb dL_isAhead_361 (by decide) (fun hc => ?_) (fun hc => ?_)
                    · have hf := iteF hf hc
                      exact B413 O7 K8 x1 x3 H locs ls hf hw (lv_sub hl [4, 5, 7] rfl)
                    · have hf := iteT hf hc
                      refine lv_aload_n hx hb dL_isAhead_364 rfl (lv_at hl 4 rfl) ?_
                      refine lv_iload hx hb dL_isAhead_365 (lv_at hl 9 rfl) ?_
                      refine lv_bipush (v := 6) hx hb dL_isAhead_367 (by decide) ?_
                      obtain ⟨r13, hr13, hf⟩ := bndS hf
                      refine q_callV (rest := []) (st1 := [.int r13]) [.int x9, .int 6] ⟨hx, hb, hml, hown, hts⟩ (c_X5_guest hr13) (cwV 2 hts gL_isAhead_X5_guest rfl rfl rfl (by decide +kernel) ⟨Nat.le_of_ble_eq_true rfl, Nat.le_of_ble_eq_true rfl⟩) hw xa_0 rfl rfl hl.1 rfl (Nat.le_of_ble_eq_true rfl) dL_isAhead_369 ⟨Nat.zero_le _, Nat.zero_le _⟩ rfl (fun H locs hw => ?_)
                      refine lv_if_gt (tgt := 402) hx hb dL_isAhead_372 (by decide) (fun hc => ?_) (fun hc => ?_)
                      · have hf := iteT hf hc
                        exact B402 O7 K8 x1 x3 H locs ls hf hw (lv_sub hl [4, 5, 7] rfl)
                      · have hf := iteF hf hc
                        refine lv_aload_n hx hb dL_isAhead_375 rfl (lv_at hl 4 rfl) ?_
                        refine lv_iload hx hb dL_isAhead_376 (lv_at hl 9 rfl) ?_
                        refine lv_iconst (v := 5) hx hb dL_isAhead_378 (by decide) ?_
                        obtain ⟨r14, hr14, hf⟩ := bndS hf
                        refine q_callV (rest := []) (st1 := [.int r14]) [.int x9, .int 5] ⟨hx, hb, hml, hown, hts⟩ (c_X5_guest hr14) (cwV 2 hts gL_isAhead_X5_guest rfl rfl rfl (by decide +kernel) ⟨Nat.le_of_ble_eq_true rfl, Nat.le_of_ble_eq_true rfl⟩) hw xa_0 rfl rfl hl.1 rfl (Nat.le_of_ble_eq_true rfl) dL_isAhead_379 ⟨Nat.zero_le _, Nat.zero_le _⟩ rfl (fun H locs hw => ?_)
                        refine lv_aload_n hx hb dL_isAhead_382 rfl (lv_at hl 4 rfl) ?_
                        refine lv_iload_n hx hb dL_isAhead_383 rfl (lv_at hl 6 rfl) ?_
                        refine lv_aload_n hx hb dL_isAhead_384 rfl (lv_at hl 4 rfl) ?_
                        refine lv_iload hx hb dL_isAhead_385 (lv_at hl 9 rfl) ?_
                        refine lv_iconst (v := 0) hx hb dL_isAhead_387 (by decide) ?_
                        obtain ⟨r15, hr15, hf⟩ := bndS hf
                        refine q_callV (rest := [.int x2, .ref (ad 0), .int r14]) (st1 := [.int r15, .int x2, .ref (ad 0), .int r14]) [.int x9, .int 0] ⟨hx, hb, hml, hown, hts⟩ (c_X5_guest hr15) (cwV 2 hts gL_isAhead_X5_guest rfl rfl rfl (by decide +kernel) ⟨Nat.le_of_ble_eq_true rfl, Nat.le_of_ble_eq_true rfl⟩) hw xa_0 rfl rfl hl.1 rfl (Nat.le_of_ble_eq_true rfl) dL_isAhead_388 ⟨Nat.zero_le _, Nat.zero_le _⟩ rfl (fun H locs hw => ?_)
                        refine lv_aload_n hx hb dL_isAhead_391 rfl (lv_at hl 4 rfl) ?_
                        refine lv_iconst (v := 0) hx hb dL_isAhead_392 (by decide) ?_
                        obtain ⟨r16, hr16, hf⟩ := bndS hf
                        refine q_callV (rest := [.int r15, .int x2, .ref (ad 0), .int r14]) (st1 := [.int r16, .int r15, .int x2, .ref (ad 0), .int r14]) [.int 0] ⟨hx, hb, hml, hown, hts⟩ (c_X5_count hr16) (cwV 1 hts gL_isAhead_X5_count rfl rfl rfl (by decide +kernel) ⟨Nat.le_of_ble_eq_true rfl, Nat.le_of_ble_eq_true rfl⟩) hw xa_0 rfl rfl hl.1 rfl (Nat.le_of_ble_eq_true rfl) dL_isAhead_393 ⟨Nat.zero_le _, Nat.zero_le _⟩ rfl (fun H locs hw => ?_)
                        obtain ⟨r17, hr17, hf⟩ := bndS hf
                        refine q_callV (rest := [.int r14]) (st1 := [.int r17, .int r14]) [.int x2, .int r15, .int r16] ⟨hx, hb, hml, hown, hts⟩ (c_X5_law hr17) (cwV 3 hts gL_isAhead_X5_law rfl rfl rfl (by decide +kernel) ⟨Nat.le_of_ble_eq_true rfl, Nat.le_of_ble_eq_true rfl⟩) hw xa_0 rfl rfl hl.1 rfl (Nat.le_of_ble_eq_true rfl) dL_isAhead_396 ⟨Nat.zero_le _, Nat.zero_le _⟩ rfl (fun H locs hw => ?_)
                        refine lv_icmp_gt (tgt := 413) hx hb dL_isAhead_399 (by decide) (fun hc => ?_) (fun hc => ?_)
                        · have hf := iteT hf hc
                          exact B413 O7 K8 x1 x3 H locs ls hf hw (lv_sub hl [4, 5, 7] rfl)
                        · have hf := iteF hf hc
                          exact B402 O7 K8 x1 x3 H locs ls hf hw (lv_sub hl [4, 5, 7] rfl)
      · have hf := iteF hf hc
        refine lv_aload_n hx hb dL_isAhead_218 rfl (lv_at hl 0 rfl) ?_
        refine lv_iload hx hb dL_isAhead_219 (lv_at hl 6 rfl) ?_
        refine lv_bipush (v := 8) hx hb dL_isAhead_221 (by decide) ?_
        obtain ⟨r18, hr18, hf⟩ := bndS hf
        refine q_callV (rest := []) (st1 := [.int r18]) [.int x10, .int 8] ⟨hx, hb, hml, hown, hts⟩ (c_X5_guest hr18) (cwV 2 hts gL_isAhead_X5_guest rfl rfl rfl (by decide +kernel) ⟨Nat.le_of_ble_eq_true rfl, Nat.le_of_ble_eq_true rfl⟩) hw xa_0 rfl rfl hl.1 rfl (Nat.le_of_ble_eq_true rfl) dL_isAhead_223 ⟨Nat.zero_le _, Nat.zero_le _⟩ rfl (fun H locs hw => ?_)
        refine lv_iload_n hx hb dL_isAhead_226 rfl (lv_at hl 2 rfl) ?_
        refine lv_icmp_ne (tgt := 246) hx hb dL_isAhead_227 (by decide) (fun hc => ?_) (fun hc => ?_)
        · have hf := iteF hf hc
          exact B246 O K x1 x2 x3 x8 x9 x10 H locs ls hf hw (lv_sub hl [0, 1, 2, 3, 4, 5, 6] rfl)
        · have hf := iteT hf hc
          refine lv_aload_n hx hb dL_isAhead_230 rfl (lv_at hl 0 rfl) ?_
          refine lv_iload hx hb dL_isAhead_231 (lv_at hl 6 rfl) ?_
          refine lv_bipush (v := 9) hx hb dL_isAhead_233 (by decide) ?_
          obtain ⟨r19, hr19, hf⟩ := bndS hf
          refine q_callV (rest := []) (st1 := [.int r19]) [.int x10, .int 9] ⟨hx, hb, hml, hown, hts⟩ (c_X5_guest hr19) (cwV 2 hts gL_isAhead_X5_guest rfl rfl rfl (by decide +kernel) ⟨Nat.le_of_ble_eq_true rfl, Nat.le_of_ble_eq_true rfl⟩) hw xa_0 rfl rfl hl.1 rfl (Nat.le_of_ble_eq_true rfl) dL_isAhead_235 ⟨Nat.zero_le _, Nat.zero_le _⟩ rfl (fun H locs hw => ?_)
          refine lv_if_ne (tgt := 246) hx hb dL_isAhead_238 (by decide) (fun hc => ?_) (fun hc => ?_)
          · have hf := iteF hf hc
            exact B246 O K x1 x2 x3 x8 x9 x10 H locs ls hf hw (lv_sub hl [0, 1, 2, 3, 4, 5, 6] rfl)
          · have hf := iteT hf hc
            refine lv_iload hx hb dL_isAhead_241 (lv_at hl 6 rfl) ?_
            refine lv_goto (tgt := 248) hx hb dL_isAhead_243 (by decide) ?_
            exact B248 O K x1 x2 x3 x8 x10 x10 H locs ls hf hw (lv_sub hl [0, 1, 2, 3, 4, 6] rfl)
  have L102 : ∀ (n102 : Nat) (O : XO) (K : RK) (x1 : Int32) (x2 : Int32) (x3 : Int64) (x5 : Int32) (x8 : Int32) (x9 : Int32) (H : Heap) (locs : List Loc) (ls : Array Slot), f_L_isAhead_l102 n102 O K x1 x2 x3 x5 x8 x9 = some (r, O', K') → WH D cI cR A (xws cI cR ad O K) s H locs → lv_has ls 14 [(0, .ref (ad 0)), (1, .int x1), (2, .int x2), (3, .long x3), (5, .int x5), (8, .int x8), (9, .int x9)] → W p l e (headSpec wsL_isAhead ({ frames := 7, cells := 0, slots := 0, locals := 150 })).room s m ([.ref (ad 0), .int a1, .int a2] : List Value).toArray below meth c H locs 0 0 (MQ below (QV (some (.int r)) D A (xws cI cR ad O' K')) (([.ref (ad 0), .int a1, .int a2] : List Value)).toArray s 0 0 A) (F0 m 102 ls []) := by
    intro n102
    induction n102 with
    | zero => intro O K x1 x2 x3 x5 x8 x9 H locs ls hf; cases hf
    | succ n102 ih =>
      have ih102 := ih
      have B194 : ∀ (O : XO) (K : RK) (x1 : Int32) (x2 : Int32) (x3 : Int64) (x5 : Int32) (x9 : Int32) (y0 : Int32) (H : Heap) (locs : List Loc) (ls : Array Slot), f_L_isAhead_b194 (f_L_isAhead_l102 n102) O K x1 x2 x3 x5 x9 y0 = some (r, O', K') → WH D cI cR A (xws cI cR ad O K) s H locs → lv_has ls 14 [(0, .ref (ad 0)), (1, .int x1), (2, .int x2), (3, .long x3), (5, .int x5), (9, .int x9)] → W p l e (headSpec wsL_isAhead ({ frames := 7, cells := 0, slots := 0, locals := 150 })).room s m ([.ref (ad 0), .int a1, .int a2] : List Value).toArray below meth c H locs 0 0 (MQ below (QV (some (.int r)) D A (xws cI cR ad O' K')) (([.ref (ad 0), .int a1, .int a2] : List Value)).toArray s 0 0 A) (F0 m 194 ls [.int y0]) := by
        intro O K x1 x2 x3 x5 x9 y0 H locs ls hf hw hl
        unfold f_L_isAhead_b194 at hf
        refine lv_istore (lv' := [(8, .int y0), (0, .ref (ad 0)), (1, .int x1), (2, .int x2), (3, .long x3), (5, .int x5), (9, .int x9)]) hx hb dL_isAhead_194 hl (by decide) rfl (fun ls hl => ?_)
        obtain ⟨v1, hv1, hf⟩ := nmE hf
        refine lv_iinc (v := v1) (lv' := [(9, .int v1), (8, .int y0), (0, .ref (ad 0)), (1, .int x1), (2, .int x2), (3, .long x3), (5, .int x5)]) hx hb dL_isAhead_196 hl (k := 6) rfl (by rw [hv1]; rfl) (by decide) rfl (fun ls hl => ?_)
        refine lv_goto (tgt := 102) hx hb dL_isAhead_199 (by decide) ?_
        exact ih102 O K x1 x2 x3 x5 y0 v1 H locs ls hf hw (lv_sub hl [2, 3, 4, 5, 6, 1, 0] rfl)
      have B193 : ∀ (O : XO) (K : RK) (x1 : Int32) (x2 : Int32) (x3 : Int64) (x5 : Int32) (x9 : Int32) (H : Heap) (locs : List Loc) (ls : Array Slot), f_L_isAhead_b193 (f_L_isAhead_l102 n102) O K x1 x2 x3 x5 x9 = some (r, O', K') → WH D cI cR A (xws cI cR ad O K) s H locs → lv_has ls 14 [(0, .ref (ad 0)), (1, .int x1), (2, .int x2), (3, .long x3), (5, .int x5), (9, .int x9)] → W p l e (headSpec wsL_isAhead ({ frames := 7, cells := 0, slots := 0, locals := 150 })).room s m ([.ref (ad 0), .int a1, .int a2] : List Value).toArray below meth c H locs 0 0 (MQ below (QV (some (.int r)) D A (xws cI cR ad O' K')) (([.ref (ad 0), .int a1, .int a2] : List Value)).toArray s 0 0 A) (F0 m 193 ls []) := by
        intro O K x1 x2 x3 x5 x9 H locs ls hf hw hl
        unfold f_L_isAhead_b193 at hf
        refine lv_iconst (v := 0) hx hb dL_isAhead_193 (by decide) ?_
        exact B194 O K x1 x2 x3 x5 x9 0 H locs ls hf hw (lv_sub hl [0, 1, 2, 3, 4, 5] rfl)
      intro O K x1 x2 x3 x5 x8 x9 H locs ls hf hw hl
      simp only [f_L_isAhead_l102] at hf
      refine lv_iload hx hb dL_isAhead_102 (lv_at hl 6 rfl) ?_
      refine lv_iconst (v := 3) hx hb dL_isAhead_104 (by decide) ?_
      refine lv_icmp_ge (tgt := 202) hx hb dL_isAhead_105 (by decide) (fun hc => ?_) (fun hc => ?_)
      · have hf := iteT hf hc
        refine lv_iconst (v := (-1)) hx hb dL_isAhead_202 (by decide) ?_
        refine lv_istore (lv' := [(9, .int (-1)), (0, .ref (ad 0)), (1, .int x1), (2, .int x2), (3, .long x3), (5, .int x5), (8, .int x8)]) hx hb dL_isAhead_203 hl (by decide) rfl (fun ls hl => ?_)
        refine lv_iconst (v := 0) hx hb dL_isAhead_205 (by decide) ?_
        refine lv_istore (lv' := [(10, .int 0), (9, .int (-1)), (0, .ref (ad 0)), (1, .int x1), (2, .int x2), (3, .long x3), (5, .int x5), (8, .int x8)]) hx hb dL_isAhead_206 hl (by decide) rfl (fun ls hl => ?_)
        exact L208 fuelN O K x1 x2 x3 x8 (-1) 0 H locs ls hf hw (lv_sub hl [2, 3, 4, 5, 7, 1, 0] rfl)
      · have hf := iteF hf hc
        refine lv_aload_n hx hb dL_isAhead_108 rfl (lv_at hl 0 rfl) ?_
        refine lv_iload_n hx hb dL_isAhead_109 rfl (lv_at hl 1 rfl) ?_
        refine lv_iload hx hb dL_isAhead_110 (lv_at hl 6 rfl) ?_
        refine lv_iconst (v := 0) hx hb dL_isAhead_112 (by decide) ?_
        obtain ⟨r1, hr1, hf⟩ := bndS hf
        refine q_callV (rest := []) (st1 := [.int r1]) [.int x1, .int x9, .int 0] ⟨hx, hb, hml, hown, hts⟩ (c_X5_ifOpened hr1) (cwV 3 hts gL_isAhead_X5_ifOpened rfl rfl rfl (by decide +kernel) ⟨Nat.le_of_ble_eq_true rfl, Nat.le_of_ble_eq_true rfl⟩) hw xa_0 rfl rfl hl.1 rfl (Nat.le_of_ble_eq_true rfl) dL_isAhead_113 ⟨Nat.zero_le _, Nat.zero_le _⟩ rfl (fun H locs hw => ?_)
        refine lv_istore (lv' := [(10, .int r1), (0, .ref (ad 0)), (1, .int x1), (2, .int x2), (3, .long x3), (5, .int x5), (8, .int x8), (9, .int x9)]) hx hb dL_isAhead_116 hl (by decide) rfl (fun ls hl => ?_)
        refine lv_iload hx hb dL_isAhead_118 (lv_at hl 6 rfl) ?_
        refine lv_if_eq (tgt := 193) hx hb dL_isAhead_120 (by decide) (fun hc => ?_) (fun hc => ?_)
        · have hf := iteT hf hc
          exact B193 O K x1 x2 x3 x5 x9 H locs ls hf hw (lv_sub hl [1, 2, 3, 4, 5, 7] rfl)
        · have hf := iteF hf hc
          refine lv_iload hx hb dL_isAhead_123 (lv_at hl 5 rfl) ?_
          refine lv_iload hx hb dL_isAhead_125 (lv_at hl 0 rfl) ?_
          refine lv_icmp_gt (tgt := 193) hx hb dL_isAhead_127 (by decide) (fun hc => ?_) (fun hc => ?_)
          · have hf := iteT hf hc
            exact B193 O K x1 x2 x3 x5 x9 H locs ls hf hw (lv_sub hl [1, 2, 3, 4, 5, 7] rfl)
          · have hf := iteF hf hc
            refine lv_iload hx hb dL_isAhead_130 (lv_at hl 0 rfl) ?_
            refine lv_if_lt (tgt := 193) hx hb dL_isAhead_132 (by decide) (fun hc => ?_) (fun hc => ?_)
            · have hf := iteT hf hc
              exact B193 O K x1 x2 x3 x5 x9 H locs ls hf hw (lv_sub hl [1, 2, 3, 4, 5, 7] rfl)
            · have hf := iteF hf hc
              refine lv_aload_n hx hb dL_isAhead_135 rfl (lv_at hl 1 rfl) ?_
              refine lv_iload_n hx hb dL_isAhead_136 rfl (lv_at hl 2 rfl) ?_
              refine lv_iload hx hb dL_isAhead_137 (lv_at hl 7 rfl) ?_
              refine lv_iconst (v := 1) hx hb dL_isAhead_139 (by decide) ?_
              obtain ⟨r2, hr2, hf⟩ := bndS hf
              refine q_callV (rest := []) (st1 := [.int r2]) [.int x1, .int x9, .int 1] ⟨hx, hb, hml, hown, hts⟩ (c_X5_ifOpened hr2) (cwV 3 hts gL_isAhead_X5_ifOpened rfl rfl rfl (by decide +kernel) ⟨Nat.le_of_ble_eq_true rfl, Nat.le_of_ble_eq_true rfl⟩) hw xa_0 rfl rfl hl.1 rfl (Nat.le_of_ble_eq_true rfl) dL_isAhead_140 ⟨Nat.zero_le _, Nat.zero_le _⟩ rfl (fun H locs hw => ?_)
              refine lv_aload_n hx hb dL_isAhead_143 rfl (lv_at hl 1 rfl) ?_
              refine lv_bipush (v := 18) hx hb dL_isAhead_144 (by decide) ?_
              obtain ⟨r3, hr3, hf⟩ := bndS hf
              refine q_callV (rest := [.int r2]) (st1 := [.int r3, .int r2]) [.int 18] ⟨hx, hb, hml, hown, hts⟩ (c_X5_count hr3) (cwV 1 hts gL_isAhead_X5_count rfl rfl rfl (by decide +kernel) ⟨Nat.le_of_ble_eq_true rfl, Nat.le_of_ble_eq_true rfl⟩) hw xa_0 rfl rfl hl.1 rfl (Nat.le_of_ble_eq_true rfl) dL_isAhead_146 ⟨Nat.zero_le _, Nat.zero_le _⟩ rfl (fun H locs hw => ?_)
              refine lv_iload hx hb dL_isAhead_149 (lv_at hl 0 rfl) ?_
              refine lv_imul hx hb dL_isAhead_151 ?_
              refine lv_icmp_ne (tgt := 193) hx hb dL_isAhead_152 (by decide) (fun hc => ?_) (fun hc => ?_)
              · have hf := iteF hf hc
                exact B193 O K x1 x2 x3 x5 x9 H locs ls hf hw (lv_sub hl [1, 2, 3, 4, 5, 7] rfl)
              · have hf := iteT hf hc
                refine lv_aload_n hx hb dL_isAhead_155 rfl (lv_at hl 1 rfl) ?_
                refine lv_iload_n hx hb dL_isAhead_156 rfl (lv_at hl 2 rfl) ?_
                refine lv_iload hx hb dL_isAhead_157 (lv_at hl 7 rfl) ?_
                refine lv_iconst (v := 2) hx hb dL_isAhead_159 (by decide) ?_
                obtain ⟨r4, hr4, hf⟩ := bndS hf
                refine q_callV (rest := []) (st1 := [.int r4]) [.int x1, .int x9, .int 2] ⟨hx, hb, hml, hown, hts⟩ (c_X5_ifOpened hr4) (cwV 3 hts gL_isAhead_X5_ifOpened rfl rfl rfl (by decide +kernel) ⟨Nat.le_of_ble_eq_true rfl, Nat.le_of_ble_eq_true rfl⟩) hw xa_0 rfl rfl hl.1 rfl (Nat.le_of_ble_eq_true rfl) dL_isAhead_160 ⟨Nat.zero_le _, Nat.zero_le _⟩ rfl (fun H locs hw => ?_)
                refine lv_aload_n hx hb dL_isAhead_163 rfl (lv_at hl 1 rfl) ?_
                refine lv_iload_n hx hb dL_isAhead_164 rfl (lv_at hl 2 rfl) ?_
                refine lv_iconst (v := 1) hx hb dL_isAhead_165 (by decide) ?_
                obtain ⟨r5, hr5, hf⟩ := bndS hf
                refine q_callV (rest := [.int r4]) (st1 := [.int r5, .int r4]) [.int x1, .int 1] ⟨hx, hb, hml, hown, hts⟩ (c_X5_guest hr5) (cwV 2 hts gL_isAhead_X5_guest rfl rfl rfl (by decide +kernel) ⟨Nat.le_of_ble_eq_true rfl, Nat.le_of_ble_eq_true rfl⟩) hw xa_0 rfl rfl hl.1 rfl (Nat.le_of_ble_eq_true rfl) dL_isAhead_166 ⟨Nat.zero_le _, Nat.zero_le _⟩ rfl (fun H locs hw => ?_)
                refine lv_icmp_gt (tgt := 193) hx hb dL_isAhead_169 (by decide) (fun hc => ?_) (fun hc => ?_)
                · have hf := iteT hf hc
                  exact B193 O K x1 x2 x3 x5 x9 H locs ls hf hw (lv_sub hl [1, 2, 3, 4, 5, 7] rfl)
                · have hf := iteF hf hc
                  refine lv_aload_n hx hb dL_isAhead_172 rfl (lv_at hl 1 rfl) ?_
                  refine lv_iload_n hx hb dL_isAhead_173 rfl (lv_at hl 2 rfl) ?_
                  refine lv_iload hx hb dL_isAhead_174 (lv_at hl 7 rfl) ?_
                  refine lv_iconst (v := 3) hx hb dL_isAhead_176 (by decide) ?_
                  obtain ⟨r6, hr6, hf⟩ := bndS hf
                  refine q_callV (rest := []) (st1 := [.int r6]) [.int x1, .int x9, .int 3] ⟨hx, hb, hml, hown, hts⟩ (c_X5_ifOpened hr6) (cwV 3 hts gL_isAhead_X5_ifOpened rfl rfl rfl (by decide +kernel) ⟨Nat.le_of_ble_eq_true rfl, Nat.le_of_ble_eq_true rfl⟩) hw xa_0 rfl rfl hl.1 rfl (Nat.le_of_ble_eq_true rfl) dL_isAhead_177 ⟨Nat.zero_le _, Nat.zero_le _⟩ rfl (fun H locs hw => ?_)
                  refine lv_aload_n hx hb dL_isAhead_180 rfl (lv_at hl 1 rfl) ?_
                  refine lv_iload_n hx hb dL_isAhead_181 rfl (lv_at hl 2 rfl) ?_
                  refine lv_iconst (v := 2) hx hb dL_isAhead_182 (by decide) ?_
                  obtain ⟨r7, hr7, hf⟩ := bndS hf
                  refine q_callV (rest := [.int r6]) (st1 := [.int r7, .int r6]) [.int x1, .int 2] ⟨hx, hb, hml, hown, hts⟩ (c_X5_guest hr7) (cwV 2 hts gL_isAhead_X5_guest rfl rfl rfl (by decide +kernel) ⟨Nat.le_of_ble_eq_true rfl, Nat.le_of_ble_eq_true rfl⟩) hw xa_0 rfl rfl hl.1 rfl (Nat.le_of_ble_eq_true rfl) dL_isAhead_183 ⟨Nat.zero_le _, Nat.zero_le _⟩ rfl (fun H locs hw => ?_)
                  refine lv_icmp_lt (tgt := 193) hx hb dL_isAhead_186 (by decide) (fun hc => ?_) (fun hc => ?_)
                  · have hf := iteT hf hc
                    exact B193 O K x1 x2 x3 x5 x9 H locs ls hf hw (lv_sub hl [1, 2, 3, 4, 5, 7] rfl)
                  · have hf := iteF hf hc
                    refine lv_iconst (v := 1) hx hb dL_isAhead_189 (by decide) ?_
                    refine lv_goto (tgt := 194) hx hb dL_isAhead_190 (by decide) ?_
                    exact B194 O K x1 x2 x3 x5 x9 1 H locs ls hf hw (lv_sub hl [1, 2, 3, 4, 5, 7] rfl)
  have B97 : ∀ (O : XO) (K : RK) (x1 : Int32) (x2 : Int32) (x3 : Int64) (x5 : Int32) (y0 : Int32) (H : Heap) (locs : List Loc) (ls : Array Slot), f_L_isAhead_b97 O K x1 x2 x3 x5 y0 = some (r, O', K') → WH D cI cR A (xws cI cR ad O K) s H locs → lv_has ls 14 [(0, .ref (ad 0)), (1, .int x1), (2, .int x2), (3, .long x3), (5, .int x5)] → W p l e (headSpec wsL_isAhead ({ frames := 7, cells := 0, slots := 0, locals := 150 })).room s m ([.ref (ad 0), .int a1, .int a2] : List Value).toArray below meth c H locs 0 0 (MQ below (QV (some (.int r)) D A (xws cI cR ad O' K')) (([.ref (ad 0), .int a1, .int a2] : List Value)).toArray s 0 0 A) (F0 m 97 ls [.int y0]) := by
    intro O K x1 x2 x3 x5 y0 H locs ls hf hw hl
    unfold f_L_isAhead_b97 at hf
    refine lv_istore (lv' := [(8, .int y0), (0, .ref (ad 0)), (1, .int x1), (2, .int x2), (3, .long x3), (5, .int x5)]) hx hb dL_isAhead_97 hl (by decide) rfl (fun ls hl => ?_)
    refine lv_iconst (v := 0) hx hb dL_isAhead_99 (by decide) ?_
    refine lv_istore (lv' := [(9, .int 0), (8, .int y0), (0, .ref (ad 0)), (1, .int x1), (2, .int x2), (3, .long x3), (5, .int x5)]) hx hb dL_isAhead_100 hl (by decide) rfl (fun ls hl => ?_)
    exact L102 fuelN O K x1 x2 x3 x5 y0 0 H locs ls hf hw (lv_sub hl [2, 3, 4, 5, 6, 1, 0] rfl)
  have B96 : ∀ (O : XO) (K : RK) (x1 : Int32) (x2 : Int32) (x3 : Int64) (x5 : Int32) (H : Heap) (locs : List Loc) (ls : Array Slot), f_L_isAhead_b96 O K x1 x2 x3 x5 = some (r, O', K') → WH D cI cR A (xws cI cR ad O K) s H locs → lv_has ls 14 [(0, .ref (ad 0)), (1, .int x1), (2, .int x2), (3, .long x3), (5, .int x5)] → W p l e (headSpec wsL_isAhead ({ frames := 7, cells := 0, slots := 0, locals := 150 })).room s m ([.ref (ad 0), .int a1, .int a2] : List Value).toArray below meth c H locs 0 0 (MQ below (QV (some (.int r)) D A (xws cI cR ad O' K')) (([.ref (ad 0), .int a1, .int a2] : List Value)).toArray s 0 0 A) (F0 m 96 ls []) := by
    intro O K x1 x2 x3 x5 H locs ls hf hw hl
    unfold f_L_isAhead_b96 at hf
    refine lv_iconst (v := 0) hx hb dL_isAhead_96 (by decide) ?_
    exact B97 O K x1 x2 x3 x5 0 H locs ls hf hw (lv_sub hl [0, 1, 2, 3, 4] rfl)
  have B92 : ∀ (O : XO) (K : RK) (x1 : Int32) (x2 : Int32) (x3 : Int64) (x5 : Int32) (H : Heap) (locs : List Loc) (ls : Array Slot), f_L_isAhead_b92 O K x1 x2 x3 x5 = some (r, O', K') → WH D cI cR A (xws cI cR ad O K) s H locs → lv_has ls 14 [(0, .ref (ad 0)), (1, .int x1), (2, .int x2), (3, .long x3), (5, .int x5)] → W p l e (headSpec wsL_isAhead ({ frames := 7, cells := 0, slots := 0, locals := 150 })).room s m ([.ref (ad 0), .int a1, .int a2] : List Value).toArray below meth c H locs 0 0 (MQ below (QV (some (.int r)) D A (xws cI cR ad O' K')) (([.ref (ad 0), .int a1, .int a2] : List Value)).toArray s 0 0 A) (F0 m 92 ls []) := by
    intro O K x1 x2 x3 x5 H locs ls hf hw hl
    unfold f_L_isAhead_b92 at hf
    refine lv_iconst (v := 1) hx hb dL_isAhead_92 (by decide) ?_
    refine lv_goto (tgt := 97) hx hb dL_isAhead_93 (by decide) ?_
    exact B97 O K x1 x2 x3 x5 1 H locs ls hf hw (lv_sub hl [0, 1, 2, 3, 4] rfl)
  have B70 : ∀ (O : XO) (K : RK) (x1 : Int32) (x2 : Int32) (x3 : Int64) (x5 : Int32) (y0 : Int32) (y1 : Int32) (H : Heap) (locs : List Loc) (ls : Array Slot), f_L_isAhead_b70 O K x1 x2 x3 x5 y0 y1 = some (r, O', K') → WH D cI cR A (xws cI cR ad O K) s H locs → lv_has ls 14 [(0, .ref (ad 0)), (1, .int x1), (2, .int x2), (3, .long x3), (5, .int x5)] → W p l e (headSpec wsL_isAhead ({ frames := 7, cells := 0, slots := 0, locals := 150 })).room s m ([.ref (ad 0), .int a1, .int a2] : List Value).toArray below meth c H locs 0 0 (MQ below (QV (some (.int r)) D A (xws cI cR ad O' K')) (([.ref (ad 0), .int a1, .int a2] : List Value)).toArray s 0 0 A) (F0 m 70 ls [.int y0, .int y1]) := by
    intro O K x1 x2 x3 x5 y0 y1 H locs ls hf hw hl
    unfold f_L_isAhead_b70 at hf
    refine lv_icmp_ne (tgt := 96) hx hb dL_isAhead_70 (by decide) (fun hc => ?_) (fun hc => ?_)
    · have hf := iteF hf hc
      exact B96 O K x1 x2 x3 x5 H locs ls hf hw (lv_sub hl [0, 1, 2, 3, 4] rfl)
    · have hf := iteT hf hc
      refine lv_aload_n hx hb dL_isAhead_73 rfl (lv_at hl 0 rfl) ?_
      refine lv_iload_n hx hb dL_isAhead_74 rfl (lv_at hl 1 rfl) ?_
      refine lv_iconst (v := 0) hx hb dL_isAhead_75 (by decide) ?_
      obtain ⟨r1, hr1, hf⟩ := bndS hf
      refine q_callV (rest := []) (st1 := [.int r1]) [.int x1, .int 0] ⟨hx, hb, hml, hown, hts⟩ (c_X5_freeIn hr1) (cwV 2 hts gL_isAhead_X5_freeIn rfl rfl rfl (by decide +kernel) ⟨Nat.le_of_ble_eq_true rfl, Nat.le_of_ble_eq_true rfl⟩) hw xa_0 rfl rfl hl.1 rfl (Nat.le_of_ble_eq_true rfl) dL_isAhead_76 ⟨Nat.zero_le _, Nat.zero_le _⟩ rfl (fun H locs hw => ?_)
      refine lv_if_eq (tgt := 92) hx hb dL_isAhead_79 (by decide) (fun hc => ?_) (fun hc => ?_)
      · have hf := iteT hf hc
        exact B92 O K x1 x2 x3 x5 H locs ls hf hw (lv_sub hl [0, 1, 2, 3, 4] rfl)
      · have hf := iteF hf hc
        refine lv_aload_n hx hb dL_isAhead_82 rfl (lv_at hl 0 rfl) ?_
        refine lv_iload_n hx hb dL_isAhead_83 rfl (lv_at hl 1 rfl) ?_
        refine lv_iconst (v := 0) hx hb dL_isAhead_84 (by decide) ?_
        obtain ⟨r2, hr2, hf⟩ := bndS hf
        refine q_callV (rest := []) (st1 := [.int r2]) [.int x1, .int 0] ⟨hx, hb, hml, hown, hts⟩ (c_X5_freeIn hr2) (cwV 2 hts gL_isAhead_X5_freeIn rfl rfl rfl (by decide +kernel) ⟨Nat.le_of_ble_eq_true rfl, Nat.le_of_ble_eq_true rfl⟩) hw xa_0 rfl rfl hl.1 rfl (Nat.le_of_ble_eq_true rfl) dL_isAhead_85 ⟨Nat.zero_le _, Nat.zero_le _⟩ rfl (fun H locs hw => ?_)
        refine lv_iconst (v := (-1)) hx hb dL_isAhead_88 (by decide) ?_
        refine lv_icmp_ne (tgt := 96) hx hb dL_isAhead_89 (by decide) (fun hc => ?_) (fun hc => ?_)
        · have hf := iteF hf hc
          exact B96 O K x1 x2 x3 x5 H locs ls hf hw (lv_sub hl [0, 1, 2, 3, 4] rfl)
        · have hf := iteT hf hc
          exact B92 O K x1 x2 x3 x5 H locs ls hf hw (lv_sub hl [0, 1, 2, 3, 4] rfl)
  have B54 : ∀ (O : XO) (K : RK) (x1 : Int32) (x2 : Int32) (x3 : Int64) (x5 : Int32) (x7 : Int32) (y0 : Int32) (H : Heap) (locs : List Loc) (ls : Array Slot), f_L_isAhead_b54 O K x1 x2 x3 x5 x7 y0 = some (r, O', K') → WH D cI cR A (xws cI cR ad O K) s H locs → lv_has ls 14 [(0, .ref (ad 0)), (1, .int x1), (2, .int x2), (3, .long x3), (5, .int x5), (7, .int x7)] → W p l e (headSpec wsL_isAhead ({ frames := 7, cells := 0, slots := 0, locals := 150 })).room s m ([.ref (ad 0), .int a1, .int a2] : List Value).toArray below meth c H locs 0 0 (MQ below (QV (some (.int r)) D A (xws cI cR ad O' K')) (([.ref (ad 0), .int a1, .int a2] : List Value)).toArray s 0 0 A) (F0 m 54 ls [.int y0]) := by
    intro O K x1 x2 x3 x5 x7 y0 H locs ls hf hw hl
    unfold f_L_isAhead_b54 at hf
    refine lv_aload_n hx hb dL_isAhead_54 rfl (lv_at hl 0 rfl) ?_
    refine lv_iload_n hx hb dL_isAhead_55 rfl (lv_at hl 1 rfl) ?_
    refine lv_iconst (v := 5) hx hb dL_isAhead_56 (by decide) ?_
    obtain ⟨r1, hr1, hf⟩ := bndS hf
    refine q_callV (rest := [.int y0]) (st1 := [.int r1, .int y0]) [.int x1, .int 5] ⟨hx, hb, hml, hown, hts⟩ (c_X5_guest hr1) (cwV 2 hts gL_isAhead_X5_guest rfl rfl rfl (by decide +kernel) ⟨Nat.le_of_ble_eq_true rfl, Nat.le_of_ble_eq_true rfl⟩) hw xa_0 rfl rfl hl.1 rfl (Nat.le_of_ble_eq_true rfl) dL_isAhead_57 ⟨Nat.zero_le _, Nat.zero_le _⟩ rfl (fun H locs hw => ?_)
    refine lv_iload hx hb dL_isAhead_60 (lv_at hl 5 rfl) ?_
    refine lv_icmp_gt (tgt := 69) hx hb dL_isAhead_62 (by decide) (fun hc => ?_) (fun hc => ?_)
    · have hf := iteT hf hc
      refine lv_iconst (v := 0) hx hb dL_isAhead_69 (by decide) ?_
      exact B70 O K x1 x2 x3 x5 0 y0 H locs ls hf hw (lv_sub hl [0, 1, 2, 3, 4] rfl)
    · have hf := iteF hf hc
      refine lv_iconst (v := 1) hx hb dL_isAhead_65 (by decide) ?_
      refine lv_goto (tgt := 70) hx hb dL_isAhead_66 (by decide) ?_
      exact B70 O K x1 x2 x3 x5 1 y0 H locs ls hf hw (lv_sub hl [0, 1, 2, 3, 4] rfl)
  refine lv_aload_n hx hb dL_isAhead_0 rfl (lv_at hl 0 rfl) ?_
  obtain ⟨r1, hr1, hf⟩ := bndS hf
  refine q_callS (rest := []) (st1 := [.long r1]) [.ref (ad 0)] ⟨hx, hb, hml, hown, hts⟩ (c_L_looks hr1) (va_cwS 1 hts gL_isAhead_L_looks rfl rfl rfl (by decide +kernel) ⟨Nat.le_of_ble_eq_true rfl, Nat.le_of_ble_eq_true rfl⟩) hw rfl hl.1 rfl (Nat.le_of_ble_eq_true rfl) dL_isAhead_1 ⟨Nat.zero_le _, Nat.zero_le _⟩ rfl (fun H locs hw => ?_)
  refine lv_lstore_n (lv' := [(3, .long r1), (0, .ref (ad 0)), (1, .int a1), (2, .int a2)]) hx hb dL_isAhead_4 rfl hl (by decide) rfl (fun ls hl => ?_)
  refine lv_aload_n hx hb dL_isAhead_5 rfl (lv_at hl 1 rfl) ?_
  refine lv_iload_n hx hb dL_isAhead_6 rfl (lv_at hl 2 rfl) ?_
  refine lv_aload_n hx hb dL_isAhead_7 rfl (lv_at hl 1 rfl) ?_
  refine lv_iload_n hx hb dL_isAhead_8 rfl (lv_at hl 2 rfl) ?_
  obtain ⟨r2, hr2, hf⟩ := bndS hf
  refine q_callV (rest := [.int a1, .ref (ad 0)]) (st1 := [.int r2, .int a1, .ref (ad 0)]) [.int a1] ⟨hx, hb, hml, hown, hts⟩ (c_X5_bestGate hr2) (cwV 1 hts gL_isAhead_X5_bestGate rfl rfl rfl (by decide +kernel) ⟨Nat.le_of_ble_eq_true rfl, Nat.le_of_ble_eq_true rfl⟩) hw xa_0 rfl rfl hl.1 rfl (Nat.le_of_ble_eq_true rfl) dL_isAhead_9 ⟨Nat.zero_le _, Nat.zero_le _⟩ rfl (fun H locs hw => ?_)
  refine lv_iconst (v := 0) hx hb dL_isAhead_12 (by decide) ?_
  obtain ⟨r3, hr3, hf⟩ := bndS hf
  refine q_callV (rest := []) (st1 := [.int r3]) [.int a1, .int r2, .int 0] ⟨hx, hb, hml, hown, hts⟩ (c_X5_ifOpened hr3) (cwV 3 hts gL_isAhead_X5_ifOpened rfl rfl rfl (by decide +kernel) ⟨Nat.le_of_ble_eq_true rfl, Nat.le_of_ble_eq_true rfl⟩) hw xa_0 rfl rfl hl.1 rfl (Nat.le_of_ble_eq_true rfl) dL_isAhead_13 ⟨Nat.zero_le _, Nat.zero_le _⟩ rfl (fun H locs hw => ?_)
  refine lv_istore (lv' := [(5, .int r3), (3, .long r1), (0, .ref (ad 0)), (1, .int a1), (2, .int a2)]) hx hb dL_isAhead_16 hl (by decide) rfl (fun ls hl => ?_)
  refine lv_aload_n hx hb dL_isAhead_18 rfl (lv_at hl 2 rfl) ?_
  refine lv_iload_n hx hb dL_isAhead_19 rfl (lv_at hl 3 rfl) ?_
  refine lv_iload_n hx hb dL_isAhead_20 rfl (lv_at hl 4 rfl) ?_
  obtain ⟨r4, hr4, hf⟩ := bndS hf
  refine q_callV (rest := []) (st1 := [.int r4]) [.int a1, .int a2] ⟨hx, hb, hml, hown, hts⟩ (c_X5_freeIn hr4) (cwV 2 hts gL_isAhead_X5_freeIn rfl rfl rfl (by decide +kernel) ⟨Nat.le_of_ble_eq_true rfl, Nat.le_of_ble_eq_true rfl⟩) hw xa_0 rfl rfl hl.1 rfl (Nat.le_of_ble_eq_true rfl) dL_isAhead_21 ⟨Nat.zero_le _, Nat.zero_le _⟩ rfl (fun H locs hw => ?_)
  refine lv_istore (lv' := [(6, .int r4), (5, .int r3), (3, .long r1), (0, .ref (ad 0)), (1, .int a1), (2, .int a2)]) hx hb dL_isAhead_24 hl (by decide) rfl (fun ls hl => ?_)
  refine lv_aload_n hx hb dL_isAhead_26 rfl (lv_at hl 3 rfl) ?_
  refine lv_iload_n hx hb dL_isAhead_27 rfl (lv_at hl 5 rfl) ?_
  refine lv_aload_n hx hb dL_isAhead_28 rfl (lv_at hl 3 rfl) ?_
  refine lv_iload_n hx hb dL_isAhead_29 rfl (lv_at hl 4 rfl) ?_
  refine lv_iconst (v := 0) hx hb dL_isAhead_30 (by decide) ?_
  obtain ⟨r5, hr5, hf⟩ := bndS hf
  refine q_callV (rest := [.int a2, .ref (ad 0)]) (st1 := [.int r5, .int a2, .ref (ad 0)]) [.int a1, .int 0] ⟨hx, hb, hml, hown, hts⟩ (c_X5_guest hr5) (cwV 2 hts gL_isAhead_X5_guest rfl rfl rfl (by decide +kernel) ⟨Nat.le_of_ble_eq_true rfl, Nat.le_of_ble_eq_true rfl⟩) hw xa_0 rfl rfl hl.1 rfl (Nat.le_of_ble_eq_true rfl) dL_isAhead_31 ⟨Nat.zero_le _, Nat.zero_le _⟩ rfl (fun H locs hw => ?_)
  refine lv_aload_n hx hb dL_isAhead_34 rfl (lv_at hl 3 rfl) ?_
  refine lv_iconst (v := 0) hx hb dL_isAhead_35 (by decide) ?_
  obtain ⟨r6, hr6, hf⟩ := bndS hf
  refine q_callV (rest := [.int r5, .int a2, .ref (ad 0)]) (st1 := [.int r6, .int r5, .int a2, .ref (ad 0)]) [.int 0] ⟨hx, hb, hml, hown, hts⟩ (c_X5_count hr6) (cwV 1 hts gL_isAhead_X5_count rfl rfl rfl (by decide +kernel) ⟨Nat.le_of_ble_eq_true rfl, Nat.le_of_ble_eq_true rfl⟩) hw xa_0 rfl rfl hl.1 rfl (Nat.le_of_ble_eq_true rfl) dL_isAhead_36 ⟨Nat.zero_le _, Nat.zero_le _⟩ rfl (fun H locs hw => ?_)
  obtain ⟨r7, hr7, hf⟩ := bndS hf
  refine q_callV (rest := []) (st1 := [.int r7]) [.int a2, .int r5, .int r6] ⟨hx, hb, hml, hown, hts⟩ (c_X5_law hr7) (cwV 3 hts gL_isAhead_X5_law rfl rfl rfl (by decide +kernel) ⟨Nat.le_of_ble_eq_true rfl, Nat.le_of_ble_eq_true rfl⟩) hw xa_0 rfl rfl hl.1 rfl (Nat.le_of_ble_eq_true rfl) dL_isAhead_39 ⟨Nat.zero_le _, Nat.zero_le _⟩ rfl (fun H locs hw => ?_)
  refine lv_istore (lv' := [(7, .int r7), (6, .int r4), (5, .int r3), (3, .long r1), (0, .ref (ad 0)), (1, .int a1), (2, .int a2)]) hx hb dL_isAhead_42 hl (by decide) rfl (fun ls hl => ?_)
  refine lv_iload hx hb dL_isAhead_44 (lv_at hl 1 rfl) ?_
  refine lv_if_ne (tgt := 53) hx hb dL_isAhead_46 (by decide) (fun hc => ?_) (fun hc => ?_)
  · have hf := iteF hf hc
    refine lv_iconst (v := 0) hx hb dL_isAhead_53 (by decide) ?_
    exact B54 O K a1 a2 r1 r3 r7 0 H locs ls hf hw (lv_sub hl [4, 5, 6, 3, 2, 0] rfl)
  · have hf := iteT hf hc
    refine lv_iconst (v := 1) hx hb dL_isAhead_49 (by decide) ?_
    refine lv_goto (tgt := 54) hx hb dL_isAhead_50 (by decide) ?_
    exact B54 O K a1 a2 r1 r3 r7 1 H locs ls hf hw (lv_sub hl [4, 5, 6, 3, 2, 0] rfl)
