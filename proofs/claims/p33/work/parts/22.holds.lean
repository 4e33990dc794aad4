def f_L_holds_b721  (O : XO) (K : RK)  (S : (Nat → Int32)) (y0 : UInt64) (y1 : UInt64) : Option Int32 := (if (Op.cmpValue (FP.dcmp y1 y0) .l) = 0 then some 1 else some 0)
def f_L_holds_b617 (k529 : (Nat → Int32) → Int32 → Int32 → Int32 → Int32 → Int32 → Int32 → Option Int32) (O : XO) (K : RK)  (S : (Nat → Int32)) (x1 : Int32) (x3 : Int32) (x4 : Int32) (x5 : Int32) (x7 : Int32) (y0 : Int32) : Option Int32 := nm (x7 + 1) (fun v1 => k529 S x1 x3 x4 x5 y0 v1)
def f_L_holds_b616 (k529 : (Nat → Int32) → Int32 → Int32 → Int32 → Int32 → Int32 → Int32 → Option Int32) (O : XO) (K : RK)  (S : (Nat → Int32)) (x1 : Int32) (x3 : Int32) (x4 : Int32) (x5 : Int32) (x7 : Int32) : Option Int32 := f_L_holds_b617 k529 O K S x1 x3 x4 x5 x7 0
def f_L_holds_l529  (O : XO) (K : RK)  : Nat → (Nat → Int32) → Int32 → Int32 → Int32 → Int32 → Int32 → Int32 → Option Int32
  | 0, _, _, _, _, _, _, _ => none
  | n529 + 1, S, x1, x3, x4, x5, x6, x7 => (if 5 ≤ x7 then (if x6 = 0 then some 0 else (if x4 = 0 then bnd (f_X5_count O K 14) (fun r1 => (if x3 = r1 then gd (inb 0 6) (nm (S (0 : Int32).toNatClampNeg) (fun v2 => bnd (f_X5_count O K 4) (fun r3 => (if v2 = r3 then gd (inb 1 6) (nm (S (1 : Int32).toNatClampNeg) (fun v4 => bnd (f_X5_count O K 6) (fun r5 => (if v4 = r5 then gd (inb 2 6) (nm (S (2 : Int32).toNatClampNeg) (fun v6 => bnd (f_X5_count O K 8) (fun r7 => (if v6 = r7 then gd (inb 3 6) (nm (S (3 : Int32).toNatClampNeg) (fun v8 => bnd (f_X5_count O K 13) (fun r9 => (if v8 = r9 then gd (inb 4 6) (nm (S (4 : Int32).toNatClampNeg) (fun v10 => bnd (f_X5_count O K 2) (fun r11 => (if v10 = r11 then bnd (f_X5_decentShare K) (fun r12 => (if x1 = 0 then f_L_holds_b721 O K S FP.dconst1 r12 else gd (n64b (FP.ddiv (FP.i2d x5) (FP.i2d x1))) (f_L_holds_b721 O K S (FP.ddiv (FP.i2d x5) (FP.i2d x1)) r12))) else some 0)))) else some 0)))) else some 0)))) else some 0)))) else some 0)))) else some 0)) else some 0)) else bnd (f_X5_count O K 0) (fun r13 => (if x6 = 0 then f_L_holds_b616 (f_L_holds_l529 O K n529) O K S x1 x3 x4 x5 x7 else bnd (f_X5_law K 1 x7 r13) (fun r14 => bnd (f_X5_law K 0 x7 r13) (fun r15 => (if r15 < r14 then f_L_holds_b616 (f_L_holds_l529 O K n529) O K S x1 x3 x4 x5 x7 else bnd (f_X5_law K 2 x7 r13) (fun r16 => bnd (f_X5_law K 0 x7 r13) (fun r17 => (if r16 < r17 then f_L_holds_b616 (f_L_holds_l529 O K n529) O K S x1 x3 x4 x5 x7 else bnd (f_X5_law K 2 x7 r13) (fun r18 => bnd (f_X5_law K 2 x7 (r13 + 3)) (fun r19 => (if r18 = r19 then f_L_holds_b617 (f_L_holds_l529 O K n529) O K S x1 x3 x4 x5 x7 1 else f_L_holds_b616 (f_L_holds_l529 O K n529) O K S x1 x3 x4 x5 x7))))))))))))
def f_L_holds_l503  (O : XO) (K : RK)  : Nat → (Nat → Int32) → Int32 → Int32 → Int32 → Int32 → Int32 → Int32 → Option Int32
  | 0, _, _, _, _, _, _, _ => none
  | n503 + 1, S, x1, x3, x4, x5, x6, x7 => (if 3 ≤ x7 then f_L_holds_l529 O K fuelN S x1 x3 x4 x5 x6 0 else bnd (f_X5_line K x7) (fun r1 => nm (x7 + 1) (fun v2 => (f_L_holds_l503 O K n503) S x1 x3 (x4 - r1) x5 x6 v2)))
def f_L_holds_b492 (k92 : (Nat → Int32) → Int32 → Int32 → Int32 → Int32 → Int32 → Int32 → Option Int32) (O : XO) (K : RK)  (S : (Nat → Int32)) (x1 : Int32) (x3 : Int32) (x4 : Int32) (x5 : Int32) (x7 : Int32) (y0 : Int32) : Option Int32 := nm (x7 + 1) (fun v1 => k92 S x1 x3 x4 x5 y0 v1)
def f_L_holds_b491 (k92 : (Nat → Int32) → Int32 → Int32 → Int32 → Int32 → Int32 → Int32 → Option Int32) (O : XO) (K : RK)  (S : (Nat → Int32)) (x1 : Int32) (x3 : Int32) (x4 : Int32) (x5 : Int32) (x7 : Int32) : Option Int32 := f_L_holds_b492 k92 O K S x1 x3 x4 x5 x7 0
def f_L_holds_b425 (k92 : (Nat → Int32) → Int32 → Int32 → Int32 → Int32 → Int32 → Int32 → Option Int32) (O : XO) (K : RK)  (S : (Nat → Int32)) (x1 : Int32) (x3 : Int32) (x4 : Int32) (x5 : Int32) (x7 : Int32) (y0 : Int32) : Option Int32 := (if y0 = 0 then f_L_holds_b491 k92 O K S x1 x3 x4 x5 x7 else bnd (f_X5_guest K x7 1) (fun r1 => (if r1 < 0 then f_L_holds_b491 k92 O K S x1 x3 x4 x5 x7 else bnd (f_X5_guest K x7 1) (fun r2 => (if 999 < r2 then f_L_holds_b491 k92 O K S x1 x3 x4 x5 x7 else bnd (f_X5_guest K x7 2) (fun r3 => (if r3 < 0 then f_L_holds_b491 k92 O K S x1 x3 x4 x5 x7 else bnd (f_X5_guest K x7 3) (fun r4 => (if r4 < 0 then f_L_holds_b491 k92 O K S x1 x3 x4 x5 x7 else bnd (f_X5_noLoan K x7 x7) (fun r5 => (if r5 = 1 then f_L_holds_b492 k92 O K S x1 x3 x4 x5 x7 1 else f_L_holds_b491 k92 O K S x1 x3 x4 x5 x7)))))))))))
def f_L_holds_b424 (k92 : (Nat → Int32) → Int32 → Int32 → Int32 → Int32 → Int32 → Int32 → Option Int32) (O : XO) (K : RK)  (S : (Nat → Int32)) (x1 : Int32) (x3 : Int32) (x4 : Int32) (x5 : Int32) (x7 : Int32) : Option Int32 := f_L_holds_b425 k92 O K S x1 x3 x4 x5 x7 0
def f_L_holds_b420 (k92 : (Nat → Int32) → Int32 → Int32 → Int32 → Int32 → Int32 → Int32 → Option Int32) (O : XO) (K : RK)  (S : (Nat → Int32)) (x1 : Int32) (x3 : Int32) (x4 : Int32) (x5 : Int32) (x7 : Int32) : Option Int32 := f_L_holds_b425 k92 O K S x1 x3 x4 x5 x7 1
def f_L_holds_b384 (k92 : (Nat → Int32) → Int32 → Int32 → Int32 → Int32 → Int32 → Int32 → Option Int32) (O : XO) (K : RK)  (S : (Nat → Int32)) (x1 : Int32) (x3 : Int32) (x4 : Int32) (x5 : Int32) (x7 : Int32) (x10 : Int32) (y0 : Int32) (y1 : Int32) : Option Int32 := (if y1 = y0 then (if x10 < 0 then f_L_holds_b420 k92 O K S x1 x3 x4 x5 x7 else bnd (f_X5_guest K x7 7) (fun r1 => (if r1 = 0 then bnd (f_X5_guest K x7 9) (fun r2 => bnd (f_X5_line K x10) (fun r3 => (if r3 ≤ r2 then f_L_holds_b424 k92 O K S x1 x3 x4 x5 x7 else f_L_holds_b420 k92 O K S x1 x3 x4 x5 x7))) else f_L_holds_b424 k92 O K S x1 x3 x4 x5 x7))) else f_L_holds_b424 k92 O K S x1 x3 x4 x5 x7)
def f_L_holds_b368 (k92 : (Nat → Int32) → Int32 → Int32 → Int32 → Int32 → Int32 → Int32 → Option Int32) (O : XO) (K : RK)  (S : (Nat → Int32)) (x1 : Int32) (x3 : Int32) (x4 : Int32) (x5 : Int32) (x7 : Int32) (x10 : Int32) (y0 : Int32) : Option Int32 := bnd (f_X5_guest K x7 9) (fun r1 => (if 0 ≤ r1 then f_L_holds_b384 k92 O K S x1 x3 x4 x5 x7 x10 0 y0 else f_L_holds_b384 k92 O K S x1 x3 x4 x5 x7 x10 1 y0))
def f_L_holds_b358 (k92 : (Nat → Int32) → Int32 → Int32 → Int32 → Int32 → Int32 → Int32 → Option Int32) (O : XO) (K : RK)  (S : (Nat → Int32)) (x1 : Int32) (x3 : Int32) (x4 : Int32) (x5 : Int32) (x7 : Int32) (x10 : Int32) : Option Int32 := (if 0 ≤ x10 then f_L_holds_b368 k92 O K S x1 x3 x4 x5 x7 x10 0 else f_L_holds_b368 k92 O K S x1 x3 x4 x5 x7 x10 1)
def f_L_holds_b348 (k92 : (Nat → Int32) → Int32 → Int32 → Int32 → Int32 → Int32 → Int32 → Option Int32) (O : XO) (K : RK)  (S : (Nat → Int32)) (x1 : Int32) (x3 : Int32) (x4 : Int32) (x5 : Int32) (x7 : Int32) (x8 : Int32) (x9 : Int32) (x10 : Int32) : Option Int32 := (if 0 ≤ x8 then f_L_holds_b358 k92 O K S x1 x3 x4 x5 x7 x10 else (if x9 < 0 then f_L_holds_b424 k92 O K S x1 x3 x4 x5 x7 else f_L_holds_b358 k92 O K S x1 x3 x4 x5 x7 x10))
def f_L_holds_b324 (k92 : (Nat → Int32) → Int32 → Int32 → Int32 → Int32 → Int32 → Int32 → Option Int32) (O : XO) (K : RK)  (S : (Nat → Int32)) (x1 : Int32) (x3 : Int32) (x4 : Int32) (x5 : Int32) (x7 : Int32) (x8 : Int32) (x9 : Int32) (x10 : Int32) : Option Int32 := (if x9 < 0 then f_L_holds_b348 k92 O K S x1 x3 x4 x5 x7 x8 x9 x10 else (if x9 = x7 then f_L_holds_b424 k92 O K S x1 x3 x4 x5 x7 else bnd (f_X5_guest K x9 4) (fun r1 => (if r1 = x7 then f_L_holds_b348 k92 O K S x1 x3 x4 x5 x7 x8 x9 x10 else f_L_holds_b424 k92 O K S x1 x3 x4 x5 x7))))
def f_L_holds_b296 (k92 : (Nat → Int32) → Int32 → Int32 → Int32 → Int32 → Int32 → Int32 → Option Int32) (O : XO) (K : RK)  (S : (Nat → Int32)) (x1 : Int32) (x3 : Int32) (x4 : Int32) (x5 : Int32) (x7 : Int32) (x8 : Int32) (x9 : Int32) (x10 : Int32) (y0 : Int32) (y1 : Int32) : Option Int32 := (if y1 = y0 then (if x8 < 0 then f_L_holds_b324 k92 O K S x1 x3 x4 x5 x7 x8 x9 x10 else (if x8 = x7 then f_L_holds_b324 k92 O K S x1 x3 x4 x5 x7 x8 x9 x10 else bnd (f_X5_guest K x8 10) (fun r1 => (if r1 = x7 then f_L_holds_b324 k92 O K S x1 x3 x4 x5 x7 x8 x9 x10 else f_L_holds_b424 k92 O K S x1 x3 x4 x5 x7)))) else f_L_holds_b424 k92 O K S x1 x3 x4 x5 x7)
def f_L_holds_b265 (k92 : (Nat → Int32) → Int32 → Int32 → Int32 → Int32 → Int32 → Int32 → Option Int32) (O : XO) (K : RK)  (S : (Nat → Int32)) (x1 : Int32) (x3 : Int32) (x4 : Int32) (x6 : Int32) (x7 : Int32) (x8 : Int32) (x9 : Int32) (x10 : Int32) (y0 : Int32) (y1 : Int32) : Option Int32 := (if x6 = 0 then f_L_holds_b424 k92 O K S x1 x3 x4 (y1 + y0) x7 else bnd (f_X5_guest K x7 5) (fun r1 => (if 0 ≤ x8 then bnd (f_X5_guest K x8 3) (fun r2 => f_L_holds_b296 k92 O K S x1 x3 x4 (y1 + y0) x7 x8 x9 x10 r2 r1) else f_L_holds_b296 k92 O K S x1 x3 x4 (y1 + y0) x7 x8 x9 x10 0 r1)))
def f_L_holds_b228 (k92 : (Nat → Int32) → Int32 → Int32 → Int32 → Int32 → Int32 → Int32 → Option Int32) (O : XO) (K : RK)  (S : (Nat → Int32)) (x1 : Int32) (x3 : Int32) (x5 : Int32) (x6 : Int32) (x7 : Int32) (x8 : Int32) (x9 : Int32) (x10 : Int32) (y0 : Int32) (y1 : Int32) : Option Int32 := bnd (f_X5_guest K x7 5) (fun r1 => bnd (f_X5_guest K x7 0) (fun r2 => bnd (f_X5_count O K 0) (fun r3 => bnd (f_X5_law K 0 r2 r3) (fun r4 => (if r4 < r1 then f_L_holds_b265 k92 O K S x1 x3 (y1 + y0) x6 x7 x8 x9 x10 0 x5 else f_L_holds_b265 k92 O K S x1 x3 (y1 + y0) x6 x7 x8 x9 x10 1 x5)))))
def f_L_holds_b186 (k92 : (Nat → Int32) → Int32 → Int32 → Int32 → Int32 → Int32 → Int32 → Option Int32) (O : XO) (K : RK)  (S : (Nat → Int32)) (x1 : Int32) (x3 : Int32) (x4 : Int32) (x5 : Int32) (x6 : Int32) (x7 : Int32) (x8 : Int32) (x9 : Int32) (x10 : Int32) (y0 : Int32) (y1 : Int32) (y2 : Int32) : Option Int32 := gd (inb y2 6) (nm ((upd (S) y2.toNatClampNeg (y1 + y0))) (fun S1 => gd (inb 4 6) (nm (S1 (4 : Int32).toNatClampNeg) (fun v2 => bnd (f_X5_guest K x7 7) (fun r3 => gd (inb 4 6) (nm ((upd (S1) (4 : Int32).toNatClampNeg (v2 + r3))) (fun S4 => bnd (f_X5_guest K x7 7) (fun r5 => nm (x3 ||| (r5 <<< (x7 &&& 31))) (fun v6 => (if 0 ≤ x10 then f_L_holds_b228 k92 O K S4 x1 v6 x5 x6 x7 x8 x9 x10 1 x4 else f_L_holds_b228 k92 O K S4 x1 v6 x5 x6 x7 x8 x9 x10 0 x4))))))))))
def f_L_holds_l92  (O : XO) (K : RK)  : Nat → (Nat → Int32) → Int32 → Int32 → Int32 → Int32 → Int32 → Int32 → Option Int32
  | 0, _, _, _, _, _, _, _ => none
  | n92 + 1, S, x1, x3, x4, x5, x6, x7 => (if x1 ≤ x7 then f_L_holds_l503 O K fuelN S x1 x3 x4 x5 x6 0 else bnd (f_X5_guest K x7 4) (fun r1 => bnd (f_X5_guest K x7 10) (fun r2 => bnd (f_X5_guest K x7 8) (fun r3 => gd (inb 0 6) (nm (S (0 : Int32).toNatClampNeg) (fun v4 => bnd (f_X5_guest K x7 1) (fun r5 => gd (inb 0 6) (nm ((upd (S) (0 : Int32).toNatClampNeg (v4 + r5))) (fun S6 => gd (inb 1 6) (nm (S6 (1 : Int32).toNatClampNeg) (fun v7 => bnd (f_X5_guest K x7 2) (fun r8 => gd (inb 1 6) (nm ((upd (S6) (1 : Int32).toNatClampNeg (v7 + r8))) (fun S9 => gd (inb 2 6) (nm (S9 (2 : Int32).toNatClampNeg) (fun v10 => bnd (f_X5_guest K x7 3) (fun r11 => gd (inb 2 6) (nm ((upd (S9) (2 : Int32).toNatClampNeg (v10 + r11))) (fun S12 => gd (inb 3 6) (nm (S12 (3 : Int32).toNatClampNeg) (fun v13 => bnd (f_X5_guest K x7 6) (fun r14 => (if r14 ≤ 0 then f_L_holds_b186 (f_L_holds_l92 O K n92) O K S12 x1 x3 x4 x5 x6 x7 r1 r2 r3 0 v13 3 else f_L_holds_b186 (f_L_holds_l92 O K n92) O K S12 x1 x3 x4 x5 x6 x7 r1 r2 r3 1 v13 3)))))))))))))))))))))))
def f_L_holds_b87  (O : XO) (K : RK)  (S : (Nat → Int32)) (x1 : Int32) (x3 : Int32) (x4 : Int32) (x5 : Int32) (y0 : Int32) : Option Int32 := f_L_holds_l92 O K fuelN S x1 x3 x4 x5 y0 0
def f_L_holds_b86  (O : XO) (K : RK)  (S : (Nat → Int32)) (x1 : Int32) (x3 : Int32) (x4 : Int32) (x5 : Int32) : Option Int32 := f_L_holds_b87 O K S x1 x3 x4 x5 0
def f_L_holds (O : XO) (K : RK)   : Option Int32 := bnd (f_X5_count O K 1) (fun r1 => nm (fun _ => 0 : Nat → Int32) (fun S2 => (if 10 < r1 then f_L_holds_b86 O K S2 r1 0 0 0 else bnd (f_X5_count O K 7) (fun r3 => bnd (f_X5_count O K 4) (fun r4 => bnd (f_X5_count O K 5) (fun r5 => (if r3 = (r4 + r5) then bnd (f_X5_count O K 10) (fun r6 => bnd (f_X5_count O K 8) (fun r7 => bnd (f_X5_count O K 9) (fun r8 => (if r6 = (r7 + r8) then bnd (f_X5_count O K 9) (fun r9 => bnd (f_X5_count O K 12) (fun r10 => (if r9 = r10 then f_L_holds_b87 O K S2 r1 0 0 0 1 else f_L_holds_b86 O K S2 r1 0 0 0))) else f_L_holds_b86 O K S2 r1 0 0 0)))) else f_L_holds_b86 O K S2 r1 0 0 0)))))))
set_option maxHeartbeats 4000000 in
set_option maxRecDepth 100000 in
theorem c_L_holds {l : Launch} {D : va_G} {cI cR : ClassId} {ad : Nat → Nat} {A : Nat → Prop} {O : XO} {K : RK}   {r : Int32}  (hf : f_L_holds O K = some r) : MO l yL_holds wsL_holds 6 130 1 6 D cI cR A [.ref (ad 0)] (xws cI cR ad O K) (some (.int r)) (xws cI cR ad O K) := by
  refine Met.ofW (cc := cL_holds) (maxL := 11) (ret := (some .boolean)) (by decide) rfl ?_
  intro p e s m args below meth c s₁ B hml hv
  obtain ⟨rfl, hw, hO, hA⟩ := x_start hv
  have hx := B.exec
  have hb := B.bytes
  have hr := B.returns
  have hts := atoms_spec (ws := wsL_holds) B.pre
  have hown : s.vm.findClass RL = some m.cls := findClass_of_methodNamed B.named
  have hlocks := B.notSynchronized
  have hl := lv_entry ([.ref (ad 0)]) (n := 11) (Nat.le_of_ble_eq_true rfl)
  rw [lg_entry_eq]
  generalize (lg_sl ([.ref (ad 0)]) ++ List.replicate (11 - (lg_sl ([.ref (ad 0)])).length) Slot.unset).toArray = ls at hl ⊢
  have hl : lv_has ls 11 [(0, .ref (ad 0))] := hl
  unfold f_L_holds at hf
  obtain ⟨H, eH⟩ : ∃ H, H = s.heap := ⟨_, rfl⟩
  obtain ⟨locs, eL⟩ : ∃ L : List Loc, L = [] := ⟨_, rfl⟩
  rw [← eH, ← eL] at hw ⊢
  clear eH eL
  have B721 : ∀ (sa : Nat) (S : (Nat → Int32)) (y0 : UInt64) (y1 : UInt64) (H : Heap) (locs : List Loc) (ls : Array Slot), f_L_holds_b721 O K S y0 y1 = some r → WH D cI cR A (xws cI cR ad O K ++ sxw cI sa S) s H locs → lv_has ls 11 [] → W p l e (headSpec wsL_holds ({ frames := 6, cells := 1, slots := 6, locals := 130 })).room s m ([.ref (ad 0)] : List Value).toArray below meth c H locs 1 6 (MQ below (QV (some (.int r)) D A (xws cI cR ad O K)) (([.ref (ad 0)] : List Value)).toArray s 1 6 A) (F0 m 721 ls [.double y0, .double y1]) := by
    intro sa S y0 y1 H locs ls hf hw hl
    unfold f_L_holds_b721 at hf
    refine lv_dcmp hx hb dL_holds_721 ?_
    refine lv_if_ne (tgt := 729) hx hb dL_holds_722 (by decide) (fun hc => ?_) (fun hc => ?_)
    · have hf := iteF hf hc
      refine lv_iconst (v := 0) hx hb dL_holds_729 (by decide) ?_
      cases hf
      have hw := WH.dropR hw
      exact q_zret hx hb hr nb_0 hlocks hw dL_holds_730
    · have hf := iteT hf hc
      refine lv_iconst (v := 1) hx hb dL_holds_725 (by decide) ?_
      refine lv_goto (tgt := 730) hx hb dL_holds_726 (by decide) ?_
      cases hf
      have hw := WH.dropR hw
      exact q_zret hx hb hr nb_1 hlocks hw dL_holds_730
  have L529 : ∀ (n529 : Nat) (sa : Nat) (S : (Nat → Int32)) (x1 : Int32) (x3 : Int32) (x4 : Int32) (x5 : Int32) (x6 : Int32) (x7 : Int32) (H : Heap) (locs : List Loc) (ls : Array Slot), f_L_holds_l529 O K n529 S x1 x3 x4 x5 x6 x7 = some r → WH D cI cR A (xws cI cR ad O K ++ sxw cI sa S) s H locs → lv_has ls 11 [(0, .ref (ad 0)), (1, .int x1), (2, .ref sa), (3, .int x3), (4, .int x4), (5, .int x5), (6, .int x6), (7, .int x7)] → W p l e (headSpec wsL_holds ({ frames := 6, cells := 1, slots := 6, locals := 130 })).room s m ([.ref (ad 0)] : List Value).toArray below meth c H locs 1 6 (MQ below (QV (some (.int r)) D A (xws cI cR ad O K)) (([.ref (ad 0)] : List Value)).toArray s 1 6 A) (F0 m 529 ls []) := by
    intro n529
    induction n529 with
    | zero => intro sa S x1 x3 x4 x5 x6 x7 H locs ls hf; cases hf
    | succ n529 ih =>
      have ih529 := ih
      have B617 : ∀ (sa : Nat) (S : (Nat → Int32)) (x1 : Int32) (x3 : Int32) (x4 : Int32) (x5 : Int32) (x7 : Int32) (y0 : Int32) (H : Heap) (locs : List Loc) (ls : Array Slot), f_L_holds_b617 (f_L_holds_l529 O K n529) O K S x1 x3 x4 x5 x7 y0 = some r → WH D cI cR A (xws cI cR ad O K ++ sxw cI sa S) s H locs → lv_has ls 11 [(0, .ref (ad 0)), (1, .int x1), (2, .ref sa), (3, .int x3), (4, .int x4), (5, .int x5), (7, .int x7)] → W p l e (headSpec wsL_holds ({ frames := 6, cells := 1, slots := 6, locals := 130 })).room s m ([.ref (ad 0)] : List Value).toArray below meth c H locs 1 6 (MQ below (QV (some (.int r)) D A (xws cI cR ad O K)) (([.ref (ad 0)] : List Value)).toArray s 1 6 A) (F0 m 617 ls [.int y0]) := by
        intro sa S x1 x3 x4 x5 x7 y0 H locs ls hf hw hl
        unfold f_L_holds_b617 at hf
        refine lv_istore (lv' := [(6, .int y0), (0, .ref (ad 0)), (1, .int x1), (2, .ref sa), (3, .int x3), (4, .int x4), (5, .int x5), (7, .int x7)]) hx hb dL_holds_617 hl (by decide) rfl (fun ls hl => ?_)
        obtain ⟨v1, hv1, hf⟩ := nmE hf
        refine lv_iinc (v := v1) (lv' := [(7, .int v1), (6, .int y0), (0, .ref (ad 0)), (1, .int x1), (2, .ref sa), (3, .int x3), (4, .int x4), (5, .int x5)]) hx hb dL_holds_619 hl (k := 7) rfl (by rw [hv1]; rfl) (by decide) rfl (fun ls hl => ?_)
        refine lv_goto (tgt := 529) hx hb dL_holds_622 (by decide) ?_
        exact ih529 sa S x1 x3 x4 x5 y0 v1 H locs ls hf hw (lv_sub hl [2, 3, 4, 5, 6, 7, 1, 0] rfl)
      have B616 : ∀ (sa : Nat) (S : (Nat → Int32)) (x1 : Int32) (x3 : Int32) (x4 : Int32) (x5 : Int32) (x7 : Int32) (H : Heap) (locs : List Loc) (ls : Array Slot), f_L_holds_b616 (f_L_holds_l529 O K n529) O K S x1 x3 x4 x5 x7 = some r → WH D cI cR A (xws cI cR ad O K ++ sxw cI sa S) s H locs → lv_has ls 11 [(0, .ref (ad 0)), (1, .int x1), (2, .ref sa), (3, .int x3), (4, .int x4), (5, .int x5), (7, .int x7)] → W p l e (headSpec wsL_holds ({ frames := 6, cells := 1, slots := 6, locals := 130 })).room s m ([.ref (ad 0)] : List Value).toArray below meth c H locs 1 6 (MQ below (QV (some (.int r)) D A (xws cI cR ad O K)) (([.ref (ad 0)] : List Value)).toArray s 1 6 A) (F0 m 616 ls []) := by
        intro sa S x1 x3 x4 x5 x7 H locs ls hf hw hl
        unfold f_L_holds_b616 at hf
        refine lv_iconst (v := 0) hx hb dL_holds_616 (by decide) ?_
        exact B617 sa S x1 x3 x4 x5 x7 0 H locs ls hf hw (lv_sub hl [0, 1, 2, 3, 4, 5, 6] rfl)
      intro sa S x1 x3 x4 x5 x6 x7 H locs ls hf hw hl
      simp only [f_L_holds_l529] at hf
      refine lv_iload hx hb dL_holds_529 (lv_at hl 7 rfl) ?_
      refine lv_iconst (v := 5) hx hb dL_holds_531 (by decide) ?_
      refine lv_icmp_ge (tgt := 625) hx hb dL_holds_532 (by decide) (fun hc => ?_) (fun hc => ?_)
      · have hf := iteT hf hc
        refine lv_iload hx hb dL_holds_625 (lv_at hl 6 rfl) ?_
        refine lv_if_eq (tgt := 729) hx hb dL_holds_627 (by decide) (fun hc => ?_) (fun hc => ?_)
        · have hf := iteT hf hc
          refine lv_iconst (v := 0) hx hb dL_holds_729 (by decide) ?_
          cases hf
          have hw := WH.dropR hw
          exact q_zret hx hb hr nb_0 hlocks hw dL_holds_730
        · have hf := iteF hf hc
          refine lv_iload hx hb dL_holds_630 (lv_at hl 4 rfl) ?_
          refine lv_if_ne (tgt := 729) hx hb dL_holds_632 (by decide) (fun hc => ?_) (fun hc => ?_)
          · have hf := iteF hf hc
            refine lv_iconst (v := 0) hx hb dL_holds_729 (by decide) ?_
            cases hf
            have hw := WH.dropR hw
            exact q_zret hx hb hr nb_0 hlocks hw dL_holds_730
          · have hf := iteT hf hc
            refine lv_iload_n hx hb dL_holds_635 rfl (lv_at hl 3 rfl) ?_
            refine lv_aload_n hx hb dL_holds_636 rfl (lv_at hl 0 rfl) ?_
            refine lv_bipush (v := 14) hx hb dL_holds_637 (by decide) ?_
            obtain ⟨r1, hr1, hf⟩ := bndS hf
            refine q_callVr (r := sxw cI sa S) (rest := [.int x3]) (st1 := [.int r1, .int x3]) [.int 14] ⟨hx, hb, hml, hown, hts⟩ (c_X5_count hr1) (cwV 1 hts gL_holds_X5_count rfl rfl rfl (by decide +kernel) ⟨Nat.le_of_ble_eq_true rfl, Nat.le_of_ble_eq_true rfl⟩) hw xa_0 rfl rfl hl.1 rfl (Nat.le_of_ble_eq_true rfl) dL_holds_639 ⟨Nat.le_of_ble_eq_true rfl, Nat.le_of_ble_eq_true rfl⟩ rfl (fun H locs hw => ?_)
            refine lv_icmp_ne (tgt := 729) hx hb dL_holds_642 (by decide) (fun hc => ?_) (fun hc => ?_)
            · have hf := iteF hf hc
              refine lv_iconst (v := 0) hx hb dL_holds_729 (by decide) ?_
              cases hf
              have hw := WH.dropR hw
              exact q_zret hx hb hr nb_0 hlocks hw dL_holds_730
            · have hf := iteT hf hc
              refine lv_aload_n hx hb dL_holds_645 rfl (lv_at hl 2 rfl) ?_
              refine lv_iconst (v := 0) hx hb dL_holds_646 (by decide) ?_
              obtain ⟨hg, hf⟩ := gdE hf
              obtain ⟨v2, hv2, hf⟩ := nmE hf
              refine q_iald hx hb hw ((xws cI cR ad O K).length + 0) (wg.trans rfl) (inb_in hg) dL_holds_647 ?_
              refine q_is hv2 ?_
              refine lv_aload_n hx hb dL_holds_648 rfl (lv_at hl 0 rfl) ?_
              refine lv_iconst (v := 4) hx hb dL_holds_649 (by decide) ?_
              obtain ⟨r3, hr3, hf⟩ := bndS hf
              refine q_callVr (r := sxw cI sa S) (rest := [.int v2]) (st1 := [.int r3, .int v2]) [.int 4] ⟨hx, hb, hml, hown, hts⟩ (c_X5_count hr3) (cwV 1 hts gL_holds_X5_count rfl rfl rfl (by decide +kernel) ⟨Nat.le_of_ble_eq_true rfl, Nat.le_of_ble_eq_true rfl⟩) hw xa_0 rfl rfl hl.1 rfl (Nat.le_of_ble_eq_true rfl) dL_holds_650 ⟨Nat.le_of_ble_eq_true rfl, Nat.le_of_ble_eq_true rfl⟩ rfl (fun H locs hw => ?_)
              refine lv_icmp_ne (tgt := 729) hx hb dL_holds_653 (by decide) (fun hc => ?_) (fun hc => ?_)
              · have hf := iteF hf hc
                refine lv_iconst (v := 0) hx hb dL_holds_729 (by decide) ?_
                cases hf
                have hw := WH.dropR hw
                exact q_zret hx hb hr nb_0 hlocks hw dL_holds_730
              · have hf := iteT hf hc
                refine lv_aload_n hx hb dL_holds_656 rfl (lv_at hl 2 rfl) ?_
                refine lv_iconst (v := 1) hx hb dL_holds_657 (by decide) ?_
                obtain ⟨hg, hf⟩ := gdE hf
                obtain ⟨v4, hv4, hf⟩ := nmE hf
                refine q_iald hx hb hw ((xws cI cR ad O K).length + 0) (wg.trans rfl) (inb_in hg) dL_holds_658 ?_
                refine q_is hv4 ?_
                refine lv_aload_n hx hb dL_holds_659 rfl (lv_at hl 0 rfl) ?_
                refine lv_bipush (v := 6) hx hb dL_holds_660 (by decide) ?_
                obtain ⟨r5, hr5, hf⟩ := bndS hf
                refine q_callVr (r := sxw cI sa S) (rest := [.int v4]) (st1 := [.int r5, .int v4]) [.int 6] ⟨hx, hb, hml, hown, hts⟩ (c_X5_count hr5) (cwV 1 hts gL_holds_X5_count rfl rfl rfl (by decide +kernel) ⟨Nat.le_of_ble_eq_true rfl, Nat.le_of_ble_eq_true rfl⟩) hw xa_0 rfl rfl hl.1 rfl (Nat.le_of_ble_eq_true rfl) dL_holds_662 ⟨Nat.le_of_ble_eq_true rfl, Nat.le_of_ble_eq_true rfl⟩ rfl (fun H locs hw => ?_)
                refine lv_icmp_ne (tgt := 729) hx hb dL_holds_665 (by decide) (fun hc => ?_) (fun hc => ?_)
                · have hf := iteF hf hc
                  refine lv_iconst (v := 0) hx hb dL_holds_729 (by decide) ?_
                  cases hf
                  have hw := WH.dropR hw
                  exact q_zret hx hb hr nb_0 hlocks hw dL_holds_730
                · have hf := iteT hf hc
                  refine lv_aload_n hx hb dL_holds_668 rfl (lv_at hl 2 rfl) ?_
                  refine lv_iconst (v := 2) hx hb dL_holds_669 (by decide) ?_
                  obtain ⟨hg, hf⟩ := gdE hf
                  obtain ⟨v6, hv6, hf⟩ := nmE hf
                  refine q_iald hx hb hw ((xws cI cR ad O K).length + 0) (wg.trans rfl) (inb_in hg) dL_holds_670 ?_
                  refine q_is hv6 ?_
                  refine lv_aload_n hx hb dL_holds_671 rfl (lv_at hl 0 rfl) ?_
                  refine lv_bipush (v := 8) hx hb dL_holds_672 (by decide) ?_
                  obtain ⟨r7, hr7, hf⟩ := bndS hf
                  refine q_callVr (r := sxw cI sa S) (rest := [.int v6]) (st1 := [.int r7, .int v6]) [.int 8] ⟨hx, hb, hml, hown, hts⟩ (c_X5_count hr7) (cwV 1 hts gL_holds_X5_count rfl rfl rfl (by decide +kernel) ⟨Nat.le_of_ble_eq_true rfl, Nat.le_of_ble_eq_true rfl⟩) hw xa_0 rfl rfl hl.1 rfl (Nat.le_of_ble_eq_true rfl) dL_holds_674 ⟨Nat.le_of_ble_eq_true rfl, Nat.le_of_ble_eq_true rfl⟩ rfl (fun H locs hw => ?_)
                  refine lv_icmp_ne (tgt := 729) hx hb dL_holds_677 (by decide) (fun hc => ?_) (fun hc => ?_)
                  · have hf := iteF hf hc
                    refine lv_iconst (v := 0) hx hb dL_holds_729 (by decide) ?_
                    cases hf
                    have hw := WH.dropR hw
                    exact q_zret hx hb hr nb_0 hlocks hw dL_holds_730
                  · have hf := iteT hf hc
                    refine lv_aload_n hx hb dL_holds_680 rfl (lv_at hl 2 rfl) ?_
                    refine lv_iconst (v := 3) hx hb dL_holds_681 (by decide) ?_
                    obtain ⟨hg, hf⟩ := gdE hf
                    obtain ⟨v8, hv8, hf⟩ := nmE hf
                    refine q_iald hx hb hw ((xws cI cR ad O K).length + 0) (wg.trans rfl) (inb_in hg) dL_holds_682 ?_
                    refine q_is hv8 ?_
                    refine lv_aload_n hx hb dL_holds_683 rfl (lv_at hl 0 rfl) ?_
                    refine lv_bipush (v := 13) hx hb dL_holds_684 (by decide) ?_
                    obtain ⟨r9, hr9, hf⟩ := bndS hf
                    refine q_callVr (r := sxw cI sa S) (rest := [.int v8]) (st1 := [.int r9, .int v8]) [.int 13] ⟨hx, hb, hml, hown, hts⟩ (c_X5_count hr9) (cwV 1 hts gL_holds_X5_count rfl rfl rfl (by decide +kernel) ⟨Nat.le_of_ble_eq_true rfl, Nat.le_of_ble_eq_true rfl⟩) hw xa_0 rfl rfl hl.1 rfl (Nat.le_of_ble_eq_true rfl) dL_holds_686 ⟨Nat.le_of_ble_eq_true rfl, Nat.le_of_ble_eq_true rfl⟩ rfl (fun H locs hw => ?_)
                    refine lv_icmp_ne (tgt := 729) hx hb dL_holds_689 (by decide) (fun hc => ?_) (fun hc => ?_)
                    · have hf := iteF hf hc
                      refine lv_iconst (v := 0) hx hb dL_holds_729 (by decide) ?_
                      cases hf
                      have hw := WH.dropR hw
                      exact q_zret hx hb hr nb_0 hlocks hw dL_holds_730
                    · have hf := iteT hf hc
                      refine lv_aload_n hx hb dL_holds_692 rfl (lv_at hl 2 rfl) ?_
                      refine lv_iconst (v := 4) hx hb dL_holds_693 (by decide) ?_
                      obtain ⟨hg, hf⟩ := gdE hf
                      obtain ⟨v10, hv10, hf⟩ := nmE hf
                      refine q_iald hx hb hw ((xws cI cR ad O K).length + 0) (wg.trans rfl) (inb_in hg) dL_holds_694 ?_
                      refine q_is hv10 ?_
                      refine lv_aload_n hx hb dL_holds_695 rfl (lv_at hl 0 rfl) ?_
                      refine lv_iconst (v := 2) hx hb dL_holds_696 (by decide) ?_
                      obtain ⟨r11, hr11, hf⟩ := bndS hf
                      refine q_callVr (r := sxw cI sa S) (rest := [.int v10]) (st1 := [.int r11, .int v10]) [.int 2] ⟨hx, hb, hml, hown, hts⟩ (c_X5_count hr11) (cwV 1 hts gL_holds_X5_count rfl rfl rfl (by decide +kernel) ⟨Nat.le_of_ble_eq_true rfl, Nat.le_of_ble_eq_true rfl⟩) hw xa_0 rfl rfl hl.1 rfl (Nat.le_of_ble_eq_true rfl) dL_holds_697 ⟨Nat.le_of_ble_eq_true rfl, Nat.le_of_ble_eq_true rfl⟩ rfl (fun H locs hw => ?_)
                      refine lv_icmp_ne (tgt := 729) hx hb dL_holds_700 (by decide) (fun hc => ?_) (fun hc => ?_)
                      · have hf := iteF hf hc
                        refine lv_iconst (v := 0) hx hb dL_holds_729 (by decide) ?_
                        cases hf
                        have hw := WH.dropR hw
                        exact q_zret hx hb hr nb_0 hlocks hw dL_holds_730
                      · have hf := iteT hf hc
                        refine lv_aload_n hx hb dL_holds_703 rfl (lv_at hl 0 rfl) ?_
                        obtain ⟨r12, hr12, hf⟩ := bndS hf
                        refine q_callVr (r := sxw cI sa S) (rest := []) (st1 := [.double r12]) [] ⟨hx, hb, hml, hown, hts⟩ (c_X5_decentShare hr12) (cwV 0 hts gL_holds_X5_decentShare rfl rfl rfl (by decide +kernel) ⟨Nat.le_of_ble_eq_true rfl, Nat.le_of_ble_eq_true rfl⟩) hw xa_0 rfl rfl hl.1 rfl (Nat.le_of_ble_eq_true rfl) dL_holds_704 ⟨Nat.le_of_ble_eq_true rfl, Nat.le_of_ble_eq_true rfl⟩ rfl (fun H locs hw => ?_)
                        refine lv_iload_n hx hb dL_holds_707 rfl (lv_at hl 1 rfl) ?_
                        refine lv_if_ne (tgt := 715) hx hb dL_holds_708 (by decide) (fun hc => ?_) (fun hc => ?_)
                        · have hf := iteF hf hc
                          refine lv_iload hx hb dL_holds_715 (lv_at hl 5 rfl) ?_
                          refine lv_i2d hx hb dL_holds_717 ?_
                          refine lv_iload_n hx hb dL_holds_718 rfl (lv_at hl 1 rfl) ?_
                          refine lv_i2d hx hb dL_holds_719 ?_
                          obtain ⟨hg, hf⟩ := gdE hf
                          refine lv_ddiv hx hb dL_holds_720 (n64b_ok hg) ?_
                          exact B721 sa S (FP.ddiv (FP.i2d x5) (FP.i2d x1)) r12 H locs ls hf hw (lv_sub hl [] rfl)
                        · have hf := iteT hf hc
                          refine lv_dconst1 hx hb dL_holds_711 ?_
                          refine lv_goto (tgt := 721) hx hb dL_holds_712 (by decide) ?_
                          exact B721 sa S FP.dconst1 r12 H locs ls hf hw (lv_sub hl [] rfl)
      · have hf := iteF hf hc
        refine lv_aload_n hx hb dL_holds_535 rfl (lv_at hl 0 rfl) ?_
        refine lv_iconst (v := 0) hx hb dL_holds_536 (by decide) ?_
        obtain ⟨r13, hr13, hf⟩ := bndS hf
        refine q_callVr (r := sxw cI sa S) (rest := []) (st1 := [.int r13]) [.int 0] ⟨hx, hb, hml, hown, hts⟩ (c_X5_count hr13) (cwV 1 hts gL_holds_X5_count rfl rfl rfl (by decide +kernel) ⟨Nat.le_of_ble_eq_true rfl, Nat.le_of_ble_eq_true rfl⟩) hw xa_0 rfl rfl hl.1 rfl (Nat.le_of_ble_eq_true rfl) dL_holds_537 ⟨Nat.le_of_ble_eq_true rfl, Nat.le_of_ble_eq_true rfl⟩ rfl (fun H locs hw => ?_)
        refine lv_istore (lv' := [(8, .int r13), (0, .ref (ad 0)), (1, .int x1), (2, .ref sa), (3, .int x3), (4, .int x4), (5, .int x5), (6, .int x6), (7, .int x7)]) hx hb dL_holds_540 hl (by decide) rfl (fun ls hl => ?_)
        refine lv_iload hx hb dL_holds_542 (lv_at hl 7 rfl) ?_
        refine lv_if_eq (tgt := 616) hx hb dL_holds_544 (by decide) (fun hc => ?_) (fun hc => ?_)
        · have hf := iteT hf hc
          exact B616 sa S x1 x3 x4 x5 x7 H locs ls hf hw (lv_sub hl [1, 2, 3, 4, 5, 6, 8] rfl)
        · have hf := iteF hf hc
          refine lv_aload_n hx hb dL_holds_547 rfl (lv_at hl 1 rfl) ?_
          refine lv_iconst (v := 1) hx hb dL_holds_548 (by decide) ?_
          refine lv_iload hx hb dL_holds_549 (lv_at hl 8 rfl) ?_
          refine lv_iload hx hb dL_holds_551 (lv_at hl 0 rfl) ?_
          obtain ⟨r14, hr14, hf⟩ := bndS hf
          refine q_callVr (r := sxw cI sa S) (rest := []) (st1 := [.int r14]) [.int 1, .int x7, .int r13] ⟨hx, hb, hml, hown, hts⟩ (c_X5_law hr14) (cwV 3 hts gL_holds_X5_law rfl rfl rfl (by decide +kernel) ⟨Nat.le_of_ble_eq_true rfl, Nat.le_of_ble_eq_true rfl⟩) hw xa_0 rfl rfl hl.1 rfl (Nat.le_of_ble_eq_true rfl) dL_holds_553 ⟨Nat.le_of_ble_eq_true rfl, Nat.le_of_ble_eq_true rfl⟩ rfl (fun H locs hw => ?_)
          refine lv_aload_n hx hb dL_holds_556 rfl (lv_at hl 1 rfl) ?_
          refine lv_iconst (v := 0) hx hb dL_holds_557 (by decide) ?_
          refine lv_iload hx hb dL_holds_558 (lv_at hl 8 rfl) ?_
          refine lv_iload hx hb dL_holds_560 (lv_at hl 0 rfl) ?_
          obtain ⟨r15, hr15, hf⟩ := bndS hf
          refine q_callVr (r := sxw cI sa S) (rest := [.int r14]) (st1 := [.int r15, .int r14]) [.int 0, .int x7, .int r13] ⟨hx, hb, hml, hown, hts⟩ (c_X5_law hr15) (cwV 3 hts gL_holds_X5_law rfl rfl rfl (by decide +kernel) ⟨Nat.le_of_ble_eq_true rfl, Nat.le_of_ble_eq_true rfl⟩) hw xa_0 rfl rfl hl.1 rfl (Nat.le_of_ble_eq_true rfl) dL_holds_562 ⟨Nat.le_of_ble_eq_true rfl, Nat.le_of_ble_eq_true rfl⟩ rfl (fun H locs hw => ?_)
          refine lv_icmp_gt (tgt := 616) hx hb dL_holds_565 (by decide) (fun hc => ?_) (fun hc => ?_)
          · have hf := iteT hf hc
            exact B616 sa S x1 x3 x4 x5 x7 H locs ls hf hw (lv_sub hl [1, 2, 3, 4, 5, 6, 8] rfl)
          · have hf := iteF hf hc
            refine lv_aload_n hx hb dL_holds_568 rfl (lv_at hl 1 rfl) ?_
            refine lv_iconst (v := 2) hx hb dL_holds_569 (by decide) ?_
            refine lv_iload hx hb dL_holds_570 (lv_at hl 8 rfl) ?_
            refine lv_iload hx hb dL_holds_572 (lv_at hl 0 rfl) ?_
            obtain ⟨r16, hr16, hf⟩ := bndS hf
            refine q_callVr (r := sxw cI sa S) (rest := []) (st1 := [.int r16]) [.int 2, .int x7, .int r13] ⟨hx, hb, hml, hown, hts⟩ (c_X5_law hr16) (cwV 3 hts gL_holds_X5_law rfl rfl rfl (by decide +kernel) ⟨Nat.le_of_ble_eq_true rfl, Nat.le_of_ble_eq_true rfl⟩) hw xa_0 rfl rfl hl.1 rfl (Nat.le_of_ble_eq_true rfl) dL_holds_574 ⟨Nat.le_of_ble_eq_true rfl, Nat.le_of_ble_eq_true rfl⟩ rfl (fun H locs hw => ?_)
            refine lv_aload_n hx hb dL_holds_577 rfl (lv_at hl 1 rfl) ?_
            refine lv_iconst (v := 0) hx hb dL_holds_578 (by decide) ?_
            refine lv_iload hx hb dL_holds_579 (lv_at hl 8 rfl) ?_
            refine lv_iload hx hb dL_holds_581 (lv_at hl 0 rfl) ?_
            obtain ⟨r17, hr17, hf⟩ := bndS hf
            refine q_callVr (r := sxw cI sa S) (rest := [.int r16]) (st1 := [.int r17, .int r16]) [.int 0, .int x7, .int r13] ⟨hx, hb, hml, hown, hts⟩ (c_X5_law hr17) (cwV 3 hts gL_holds_X5_law rfl rfl rfl (by decide +kernel) ⟨Nat.le_of_ble_eq_true rfl, Nat.le_of_ble_eq_true rfl⟩) hw xa_0 rfl rfl hl.1 rfl (Nat.le_of_ble_eq_true rfl) dL_holds_583 ⟨Nat.le_of_ble_eq_true rfl, Nat.le_of_ble_eq_true rfl⟩ rfl (fun H locs hw => ?_)
            refine lv_icmp_lt (tgt := 616) hx hb dL_holds_586 (by decide) (fun hc => ?_) (fun hc => ?_)
            · have hf := iteT hf hc
              exact B616 sa S x1 x3 x4 x5 x7 H locs ls hf hw (lv_sub hl [1, 2, 3, 4, 5, 6, 8] rfl)
            · have hf := iteF hf hc
              refine lv_aload_n hx hb dL_holds_589 rfl (lv_at hl 1 rfl) ?_
              refine lv_iconst (v := 2) hx hb dL_holds_590 (by decide) ?_
              refine lv_iload hx hb dL_holds_591 (lv_at hl 8 rfl) ?_
              refine lv_iload hx hb dL_holds_593 (lv_at hl 0 rfl) ?_
              obtain ⟨r18, hr18, hf⟩ := bndS hf
              refine q_callVr (r := sxw cI sa S) (rest := []) (st1 := [.int r18]) [.int 2, .int x7, .int r13] ⟨hx, hb, hml, hown, hts⟩ (c_X5_law hr18) (cwV 3 hts gL_holds_X5_law rfl rfl rfl (by decide +kernel) ⟨Nat.le_of_ble_eq_true rfl, Nat.le_of_ble_eq_true rfl⟩) hw xa_0 rfl rfl hl.1 rfl (Nat.le_of_ble_eq_true rfl) dL_holds_595 ⟨Nat.le_of_ble_eq_true rfl, Nat.le_of_ble_eq_true rfl⟩ rfl (fun H locs hw => ?_)
              refine lv_aload_n hx hb dL_holds_598 rfl (lv_at hl 1 rfl) ?_
              refine lv_iconst (v := 2) hx hb dL_holds_599 (by decide) ?_
              refine lv_iload hx hb dL_holds_600 (lv_at hl 8 rfl) ?_
              refine lv_iload hx hb dL_holds_602 (lv_at hl 0 rfl) ?_
              refine lv_iconst (v := 3) hx hb dL_holds_604 (by decide) ?_
              refine lv_iadd hx hb dL_holds_605 ?_
              obtain ⟨r19, hr19, hf⟩ := bndS hf
              refine q_callVr (r := sxw cI sa S) (rest := [.int r18]) (st1 := [.int r19, .int r18]) [.int 2, .int x7, .int (r13 + 3)] ⟨hx, hb, hml, hown, hts⟩ (c_X5_law hr19) (cwV 3 hts gL_holds_X5_law rfl rfl rfl (by decide +kernel) ⟨Nat.le_of_ble_eq_true rfl, Nat.le_of_ble_eq_true rfl⟩) hw xa_0 rfl rfl hl.1 rfl (Nat.le_of_ble_eq_true rfl) dL_holds_606 ⟨Nat.le_of_ble_eq_true rfl, Nat.le_of_ble_eq_true rfl⟩ rfl (fun H locs hw => ?_)
              refine lv_icmp_ne (tgt := 616) hx hb dL_holds_609 (by decide) (fun hc => ?_) (fun hc => ?_)
              · have hf := iteF hf hc
                exact B616 sa S x1 x3 x4 x5 x7 H locs ls hf hw (lv_sub hl [1, 2, 3, 4, 5, 6, 8] rfl)
              · have hf := iteT hf hc
                refine lv_iconst (v := 1) hx hb dL_holds_612 (by decide) ?_
                refine lv_goto (tgt := 617) hx hb dL_holds_613 (by decide) ?_
                exact B617 sa S x1 x3 x4 x5 x7 1 H locs ls hf hw (lv_sub hl [1, 2, 3, 4, 5, 6, 8] rfl)
  have L503 : ∀ (n503 : Nat) (sa : Nat) (S : (Nat → Int32)) (x1 : Int32) (x3 : Int32) (x4 : Int32) (x5 : Int32) (x6 : Int32) (x7 : Int32) (H : Heap) (locs : List Loc) (ls : Array Slot), f_L_holds_l503 O K n503 S x1 x3 x4 x5 x6 x7 = some r → WH D cI cR A (xws cI cR ad O K ++ sxw cI sa S) s H locs → lv_has ls 11 [(0, .ref (ad 0)), (1, .int x1), (2, .ref sa), (3, .int x3), (4, .int x4), (5, .int x5), (6, .int x6), (7, .int x7)] → W p l e (headSpec wsL_holds ({ frames := 6, cells := 1, slots := 6, locals := 130 })).room s m ([.ref (ad 0)] : List Value).toArray below meth c H locs 1 6 (MQ below (QV (some (.int r)) D A (xws cI cR ad O K)) (([.ref (ad 0)] : List Value)).toArray s 1 6 A) (F0 m 503 ls []) := by
    intro n503
    induction n503 with
    | zero => intro sa S x1 x3 x4 x5 x6 x7 H locs ls hf; cases hf
    | succ n503 ih =>
      have ih503 := ih
      intro sa S x1 x3 x4 x5 x6 x7 H locs ls hf hw hl
      simp only [f_L_holds_l503] at hf
      refine lv_iload hx hb dL_holds_503 (lv_at hl 7 rfl) ?_
      refine lv_iconst (v := 3) hx hb dL_holds_505 (by decide) ?_
      refine lv_icmp_ge (tgt := 526) hx hb dL_holds_506 (by decide) (fun hc => ?_) (fun hc => ?_)
      · have hf := iteT hf hc
        refine lv_iconst (v := 0) hx hb dL_holds_526 (by decide) ?_
        refine lv_istore (lv' := [(7, .int 0), (0, .ref (ad 0)), (1, .int x1), (2, .ref sa), (3, .int x3), (4, .int x4), (5, .int x5), (6, .int x6)]) hx hb dL_holds_527 hl (by decide) rfl (fun ls hl => ?_)
        exact L529 fuelN sa S x1 x3 x4 x5 x6 0 H locs ls hf hw (lv_sub hl [1, 2, 3, 4, 5, 6, 7, 0] rfl)
      · have hf := iteF hf hc
        refine lv_iload hx hb dL_holds_509 (lv_at hl 4 rfl) ?_
        refine lv_aload_n hx hb dL_holds_511 rfl (lv_at hl 0 rfl) ?_
        refine lv_iload hx hb dL_holds_512 (lv_at hl 7 rfl) ?_
        obtain ⟨r1, hr1, hf⟩ := bndS hf
        refine q_callVr (r := sxw cI sa S) (rest := [.int x4]) (st1 := [.int r1, .int x4]) [.int x7] ⟨hx, hb, hml, hown, hts⟩ (c_X5_line hr1) (cwV 1 hts gL_holds_X5_line rfl rfl rfl (by decide +kernel) ⟨Nat.le_of_ble_eq_true rfl, Nat.le_of_ble_eq_true rfl⟩) hw xa_0 rfl rfl hl.1 rfl (Nat.le_of_ble_eq_true rfl) dL_holds_514 ⟨Nat.le_of_ble_eq_true rfl, Nat.le_of_ble_eq_true rfl⟩ rfl (fun H locs hw => ?_)
        refine lv_isub hx hb dL_holds_517 ?_
        refine lv_istore (lv' := [(4, .int (x4 - r1)), (0, .ref (ad 0)), (1, .int x1), (2, .ref sa), (3, .int x3), (5, .int x5), (6, .int x6), (7, .int x7)]) hx hb dL_holds_518 hl (by decide) rfl (fun ls hl => ?_)
        obtain ⟨v2, hv2, hf⟩ := nmE hf
        refine lv_iinc (v := v2) (lv' := [(7, .int v2), (4, .int (x4 - r1)), (0, .ref (ad 0)), (1, .int x1), (2, .ref sa), (3, .int x3), (5, .int x5), (6, .int x6)]) hx hb dL_holds_520 hl (k := 7) rfl (by rw [hv2]; rfl) (by decide) rfl (fun ls hl => ?_)
        refine lv_goto (tgt := 503) hx hb dL_holds_523 (by decide) ?_
        exact ih503 sa S x1 x3 (x4 - r1) x5 x6 v2 H locs ls hf hw (lv_sub hl [2, 3, 4, 5, 1, 6, 7, 0] rfl)
  have L92 : ∀ (n92 : Nat) (sa : Nat) (S : (Nat → Int32)) (x1 : Int32) (x3 : Int32) (x4 : Int32) (x5 : Int32) (x6 : Int32) (x7 : Int32) (H : Heap) (locs : List Loc) (ls : Array Slot), f_L_holds_l92 O K n92 S x1 x3 x4 x5 x6 x7 = some r → WH D cI cR A (xws cI cR ad O K ++ sxw cI sa S) s H locs → lv_has ls 11 [(0, .ref (ad 0)), (1, .int x1), (2, .ref sa), (3, .int x3), (4, .int x4), (5, .int x5), (6, .int x6), (7, .int x7)] → W p l e (headSpec wsL_holds ({ frames := 6, cells := 1, slots := 6, locals := 130 })).room s m ([.ref (ad 0)] : List Value).toArray below meth c H locs 1 6 (MQ below (QV (some (.int r)) D A (xws cI cR ad O K)) (([.ref (ad 0)] : List Value)).toArray s 1 6 A) (F0 m 92 ls []) := by
    intro n92
    induction n92 with
    | zero => intro sa S x1 x3 x4 x5 x6 x7 H locs ls hf; cases hf
    | succ n92 ih =>
      have ih92 := ih
      have B492 : ∀ (sa : Nat) (S : (Nat → Int32)) (x1 : Int32) (x3 : Int32) (x4 : Int32) (x5 : Int32) (x7 : Int32) (y0 : Int32) (H : Heap) (locs : List Loc) (ls : Array Slot), f_L_holds_b492 (f_L_holds_l92 O K n92) O K S x1 x3 x4 x5 x7 y0 = some r → WH D cI cR A (xws cI cR ad O K ++ sxw cI sa S) s H locs → lv_has ls 11 [(0, .ref (ad 0)), (1, .int x1), (2, .ref sa), (3, .int x3), (4, .int x4), (5, .int x5), (7, .int x7)] → W p l e (headSpec wsL_holds ({ frames := 6, cells := 1, slots := 6, locals := 130 })).room s m ([.ref (ad 0)] : List Value).toArray below meth c H locs 1 6 (MQ below (QV (some (.int r)) D A (xws cI cR ad O K)) (([.ref (ad 0)] : List Value)).toArray s 1 6 A) (F0 m 492 ls [.int y0]) := by
        intro sa S x1 x3 x4 x5 x7 y0 H locs ls hf hw hl
        unfold f_L_holds_b492 at hf
        refine lv_istore (lv' := [(6, .int y0), (0, .ref (ad 0)), (1, .int x1), (2, .ref sa), (3, .int x3), (4, .int x4), (5, .int x5), (7, .int x7)]) hx hb dL_holds_492 hl (by decide) rfl (fun ls hl => ?_)
        obtain ⟨v1, hv1, hf⟩ := nmE hf
        refine lv_iinc (v := v1) (lv' := [(7, .int v1), (6, .int y0), (0, .ref (ad 0)), (1, .int x1), (2, .ref sa), (3, .int x3), (4, .int x4), (5, .int x5)]) hx hb dL_holds_494 hl (k := 7) rfl (by rw [hv1]; rfl) (by decide) rfl (fun ls hl => ?_)
        refine lv_goto (tgt := 92) hx hb dL_holds_497 (by decide) ?_
        exact ih92 sa S x1 x3 x4 x5 y0 v1 H locs ls hf hw (lv_sub hl [2, 3, 4, 5, 6, 7, 1, 0] rfl)
      have B491 : ∀ (sa : Nat) (S : (Nat → Int32)) (x1 : Int32) (x3 : Int32) (x4 : Int32) (x5 : Int32) (x7 : Int32) (H : Heap) (locs : List Loc) (ls : Array Slot), f_L_holds_b491 (f_L_holds_l92 O K n92) O K S x1 x3 x4 x5 x7 = some r → WH D cI cR A (xws cI cR ad O K ++ sxw cI sa S) s H locs → lv_has ls 11 [(0, .ref (ad 0)), (1, .int x1), (2, .ref sa), (3, .int x3), (4, .int x4), (5, .int x5), (7, .int x7)] → W p l e (headSpec wsL_holds ({ frames := 6, cells := 1, slots := 6, locals := 130 })).room s m ([.ref (ad 0)] : List Value).toArray below meth c H locs 1 6 (MQ below (QV (some (.int r)) D A (xws cI cR ad O K)) (([.ref (ad 0)] : List Value)).toArray s 1 6 A) (F0 m 491 ls []) := by
        intro sa S x1 x3 x4 x5 x7 H locs ls hf hw hl
        unfold f_L_holds_b491 at hf
        refine lv_iconst (v := 0) hx hb dL_holds_491 (by decide) ?_
        exact B492 sa S x1 x3 x4 x5 x7 0 H locs ls hf hw (lv_sub hl [0, 1, 2, 3, 4, 5, 6] rfl)
      have B425 : ∀ (sa : Nat) (S : (Nat → Int32)) (x1 : Int32) (x3 : Int32) (x4 : Int32) (x5 : Int32) (x7 : Int32) (y0 : Int32) (H : Heap) (locs : List Loc) (ls : Array Slot), f_L_holds_b425 (f_L_holds_l92 O K n92) O K S x1 x3 x4 x5 x7 y0 = some r → WH D cI cR A (xws cI cR ad O K ++ sxw cI sa S) s H locs → lv_has ls 11 [(0, .ref (ad 0)), (1, .int x1), (2, .ref sa), (3, .int x3), (4, .int x4), (5, .int x5), (7, .int x7)] → W p l e (headSpec wsL_holds ({ frames := 6, cells := 1, slots := 6, locals := 130 })).room s m ([.ref (ad 0)] : List Value).toArray below meth c H locs 1 6 (MQ below (QV (some (.int r)) D A (xws cI cR ad O K)) (([.ref (ad 0)] : List Value)).toArray s 1 6 A) (F0 m 425 ls [.int y0]) := by
        intro sa S x1 x3 x4 x5 x7 y0 H locs ls hf hw hl
        unfold f_L_holds_b425 at hf
        refine lv_istore (lv' := [(6, .int y0), (0, .ref (ad 0)), (1, .int x1), (2, .ref sa), (3, .int x3), (4, .int x4), (5, .int x5), (7, .int x7)]) hx hb dL_holds_425 hl (by decide) rfl (fun ls hl => ?_)
        refine lv_iload hx hb dL_holds_427 (lv_at hl 0 rfl) ?_
        refine lv_if_eq (tgt := 491) hx hb dL_holds_429 (by decide) (fun hc => ?_) (fun hc => ?_)
        · have hf := iteT hf hc
          exact B491 sa S x1 x3 x4 x5 x7 H locs ls hf hw (lv_sub hl [1, 2, 3, 4, 5, 6, 7] rfl)
        · have hf := iteF hf hc
          refine lv_aload_n hx hb dL_holds_432 rfl (lv_at hl 1 rfl) ?_
          refine lv_iload hx hb dL_holds_433 (lv_at hl 7 rfl) ?_
          refine lv_iconst (v := 1) hx hb dL_holds_435 (by decide) ?_
          obtain ⟨r1, hr1, hf⟩ := bndS hf
          refine q_callVr (r := sxw cI sa S) (rest := []) (st1 := [.int r1]) [.int x7, .int 1] ⟨hx, hb, hml, hown, hts⟩ (c_X5_guest hr1) (cwV 2 hts gL_holds_X5_guest rfl rfl rfl (by decide +kernel) ⟨Nat.le_of_ble_eq_true rfl, Nat.le_of_ble_eq_true rfl⟩) hw xa_0 rfl rfl hl.1 rfl (Nat.le_of_ble_eq_true rfl) dL_holds_436 ⟨Nat.le_of_ble_eq_true rfl, Nat.le_of_ble_eq_true rfl⟩ rfl (fun H locs hw => ?_)
          refine lv_if_lt (tgt := 491) hx hb dL_holds_439 (by decide) (fun hc => ?_) (fun hc => ?_)
          · have hf := iteT hf hc
            exact B491 sa S x1 x3 x4 x5 x7 H locs ls hf hw (lv_sub hl [1, 2, 3, 4, 5, 6, 7] rfl)
          · have hf := iteF hf hc
            refine lv_aload_n hx hb dL_holds_442 rfl (lv_at hl 1 rfl) ?_
            refine lv_iload hx hb dL_holds_443 (lv_at hl 7 rfl) ?_
            refine lv_iconst (v := 1) hx hb dL_holds_445 (by decide) ?_
            obtain ⟨r2, hr2, hf⟩ := bndS hf
            refine q_callVr (r := sxw cI sa S) (rest := []) (st1 := [.int r2]) [.int x7, .int 1] ⟨hx, hb, hml, hown, hts⟩ (c_X5_guest hr2) (cwV 2 hts gL_holds_X5_guest rfl rfl rfl (by decide +kernel) ⟨Nat.le_of_ble_eq_true rfl, Nat.le_of_ble_eq_true rfl⟩) hw xa_0 rfl rfl hl.1 rfl (Nat.le_of_ble_eq_true rfl) dL_holds_446 ⟨Nat.le_of_ble_eq_true rfl, Nat.le_of_ble_eq_true rfl⟩ rfl (fun H locs hw => ?_)
            refine lv_sipush (v := 999) hx hb dL_holds_449 (by decide) ?_
            refine lv_icmp_gt (tgt := 491) hx hb dL_holds_452 (by decide) (fun hc => ?_) (fun hc => ?_)
            · have hf := iteT hf hc
              exact B491 sa S x1 x3 x4 x5 x7 H locs ls hf hw (lv_sub hl [1, 2, 3, 4, 5, 6, 7] rfl)
            · have hf := iteF hf hc
              refine lv_aload_n hx hb dL_holds_455 rfl (lv_at hl 1 rfl) ?_
              refine lv_iload hx hb dL_holds_456 (lv_at hl 7 rfl) ?_
              refine lv_iconst (v := 2) hx hb dL_holds_458 (by decide) ?_
              obtain ⟨r3, hr3, hf⟩ := bndS hf
              refine q_callVr (r := sxw cI sa S) (rest := []) (st1 := [.int r3]) [.int x7, .int 2] ⟨hx, hb, hml, hown, hts⟩ (c_X5_guest hr3) (cwV 2 hts gL_holds_X5_guest rfl rfl rfl (by decide +kernel) ⟨Nat.le_of_ble_eq_true rfl, Nat.le_of_ble_eq_true rfl⟩) hw xa_0 rfl rfl hl.1 rfl (Nat.le_of_ble_eq_true rfl) dL_holds_459 ⟨Nat.le_of_ble_eq_true rfl, Nat.le_of_ble_eq_true rfl⟩ rfl (fun H locs hw => ?_)
              refine lv_if_lt (tgt := 491) hx hb dL_holds_462 (by decide) (fun hc => ?_) (fun hc => ?_)
              · have hf := iteT hf hc
                exact B491 sa S x1 x3 x4 x5 x7 H locs ls hf hw (lv_sub hl [1, 2, 3, 4, 5, 6, 7] rfl)
              · have hf := iteF hf hc
                refine lv_aload_n hx hb dL_holds_465 rfl (lv_at hl 1 rfl) ?_
                refine lv_iload hx hb dL_holds_466 (lv_at hl 7 rfl) ?_
                refine lv_iconst (v := 3) hx hb dL_holds_468 (by decide) ?_
                obtain ⟨r4, hr4, hf⟩ := bndS hf
                refine q_callVr (r := sxw cI sa S) (rest := []) (st1 := [.int r4]) [.int x7, .int 3] ⟨hx, hb, hml, hown, hts⟩ (c_X5_guest hr4) (cwV 2 hts gL_holds_X5_guest rfl rfl rfl (by decide +kernel) ⟨Nat.le_of_ble_eq_true rfl, Nat.le_of_ble_eq_true rfl⟩) hw xa_0 rfl rfl hl.1 rfl (Nat.le_of_ble_eq_true rfl) dL_holds_469 ⟨Nat.le_of_ble_eq_true rfl, Nat.le_of_ble_eq_true rfl⟩ rfl (fun H locs hw => ?_)
                refine lv_if_lt (tgt := 491) hx hb dL_holds_472 (by decide) (fun hc => ?_) (fun hc => ?_)
                · have hf := iteT hf hc
                  exact B491 sa S x1 x3 x4 x5 x7 H locs ls hf hw (lv_sub hl [1, 2, 3, 4, 5, 6, 7] rfl)
                · have hf := iteF hf hc
                  refine lv_aload_n hx hb dL_holds_475 rfl (lv_at hl 1 rfl) ?_
                  refine lv_iload hx hb dL_holds_476 (lv_at hl 7 rfl) ?_
                  refine lv_iload hx hb dL_holds_478 (lv_at hl 7 rfl) ?_
                  obtain ⟨r5, hr5, hf⟩ := bndS hf
                  refine q_callVr (r := sxw cI sa S) (rest := []) (st1 := [.int r5]) [.int x7, .int x7] ⟨hx, hb, hml, hown, hts⟩ (c_X5_noLoan hr5) (cwV 2 hts gL_holds_X5_noLoan rfl rfl rfl (by decide +kernel) ⟨Nat.le_of_ble_eq_true rfl, Nat.le_of_ble_eq_true rfl⟩) hw xa_0 rfl rfl hl.1 rfl (Nat.le_of_ble_eq_true rfl) dL_holds_480 ⟨Nat.le_of_ble_eq_true rfl, Nat.le_of_ble_eq_true rfl⟩ rfl (fun H locs hw => ?_)
                  refine lv_iconst (v := 1) hx hb dL_holds_483 (by decide) ?_
                  refine lv_icmp_ne (tgt := 491) hx hb dL_holds_484 (by decide) (fun hc => ?_) (fun hc => ?_)
                  · have hf := iteF hf hc
                    exact B491 sa S x1 x3 x4 x5 x7 H locs ls hf hw (lv_sub hl [1, 2, 3, 4, 5, 6, 7] rfl)
                  · have hf := iteT hf hc
                    refine lv_iconst (v := 1) hx hb dL_holds_487 (by decide) ?_
                    refine lv_goto (tgt := 492) hx hb dL_holds_488 (by decide) ?_
                    exact B492 sa S x1 x3 x4 x5 x7 1 H locs ls hf hw (lv_sub hl [1, 2, 3, 4, 5, 6, 7] rfl)
      have B424 : ∀ (sa : Nat) (S : (Nat → Int32)) (x1 : Int32) (x3 : Int32) (x4 : Int32) (x5 : Int32) (x7 : Int32) (H : Heap) (locs : List Loc) (ls : Array Slot), f_L_holds_b424 (f_L_holds_l92 O K n92) O K S x1 x3 x4 x5 x7 = some r → WH D cI cR A (xws cI cR ad O K ++ sxw cI sa S) s H locs → lv_has ls 11 [(0, .ref (ad 0)), (1, .int x1), (2, .ref sa), (3, .int x3), (4, .int x4), (5, .int x5), (7, .int x7)] → W p l e (headSpec wsL_holds ({ frames := 6, cells := 1, slots := 6, locals := 130 })).room s m ([.ref (ad 0)] : List Value).toArray below meth c H locs 1 6 (MQ below (QV (some (.int r)) D A (xws cI cR ad O K)) (([.ref (ad 0)] : List Value)).toArray s 1 6 A) (F0 m 424 ls []) := by
        intro sa S x1 x3 x4 x5 x7 H locs ls hf hw hl
        unfold f_L_holds_b424 at hf
        refine lv_iconst (v := 0) hx hb dL_holds_424 (by decide) ?_
        exact B425 sa S x1 x3 x4 x5 x7 0 H locs ls hf hw (lv_sub hl [0, 1, 2, 3, 4, 5, 6] rfl)
      have B420 : ∀ (sa : Nat) (S : (Nat → Int32)) (x1 : Int32) (x3 : Int32) (x4 : Int32) (x5 : Int32) (x7 : Int32) (H : Heap) (locs : List Loc) (ls : Array Slot), f_L_holds_b420 (f_L_holds_l92 O K n92) O K S x1 x3 x4 x5 x7 = some r → WH D cI cR A (xws cI cR ad O K ++ sxw cI sa S) s H locs → lv_has ls 11 [(0, .ref (ad 0)), (1, .int x1), (2, .ref sa), (3, .int x3), (4, .int x4), (5, .int x5), (7, .int x7)] → W p l e (headSpec wsL_holds ({ frames := 6, cells := 1, slots := 6, locals := 130 })).room s m ([.ref (ad 0)] : List Value).toArray below meth c H locs 1 6 (MQ below (QV (some (.int r)) D A (xws cI cR ad O K)) (([.ref (ad 0)] : List Value)).toArray s 1 6 A) (F0 m 420 ls []) := by
        intro sa S x1 x3 x4 x5 x7 H locs ls hf hw hl
        unfold f_L_holds_b420 at hf
        refine lv_iconst (v := 1) hx hb dL_holds_420 (by decide) ?_
        refine lv_goto (tgt := 425) hx hb dL_holds_421 (by decide) ?_
        exact B425 sa S x1 x3 x4 x5 x7 1 H locs ls hf hw (lv_sub hl [0, 1, 2, 3, 4, 5, 6] rfl)
      have B384 : ∀ (sa : Nat) (S : (Nat → Int32)) (x1 : Int32) (x3 : Int32) (x4 : Int32) (x5 : Int32) (x7 : Int32) (x10 : Int32) (y0 : Int32) (y1 : Int32) (H : Heap) (locs : List Loc) (ls : Array Slot), f_L_holds_b384 (f_L_holds_l92 O K n92) O K S x1 x3 x4 x5 x7 x10 y0 y1 = some r → WH D cI cR A (xws cI cR ad O K ++ sxw cI sa S) s H locs → lv_has ls 11 [(0, .ref (ad 0)), (1, .int x1), (2, .ref sa), (3, .int x3), (4, .int x4), (5, .int x5), (7, .int x7), (10, .int x10)] → W p l e (headSpec wsL_holds ({ frames := 6, cells := 1, slots := 6, locals := 130 })).room s m ([.ref (ad 0)] : List Value).toArray below meth c H locs 1 6 (MQ below (QV (some (.int r)) D A (xws cI cR ad O K)) (([.ref (ad 0)] : List Value)).toArray s 1 6 A) (F0 m 384 ls [.int y0, .int y1]) := by
        intro sa S x1 x3 x4 x5 x7 x10 y0 y1 H locs ls hf hw hl
        unfold f_L_holds_b384 at hf
        refine lv_icmp_ne (tgt := 424) hx hb dL_holds_384 (by decide) (fun hc => ?_) (fun hc => ?_)
        · have hf := iteF hf hc
          exact B424 sa S x1 x3 x4 x5 x7 H locs ls hf hw (lv_sub hl [0, 1, 2, 3, 4, 5, 6] rfl)
        · have hf := iteT hf hc
          refine lv_iload hx hb dL_holds_387 (lv_at hl 7 rfl) ?_
          refine lv_if_lt (tgt := 420) hx hb dL_holds_389 (by decide) (fun hc => ?_) (fun hc => ?_)
          · have hf := iteT hf hc
            exact B420 sa S x1 x3 x4 x5 x7 H locs ls hf hw (lv_sub hl [0, 1, 2, 3, 4, 5, 6] rfl)
          · have hf := iteF hf hc
            refine lv_aload_n hx hb dL_holds_392 rfl (lv_at hl 0 rfl) ?_
            refine lv_iload hx hb dL_holds_393 (lv_at hl 6 rfl) ?_
            refine lv_bipush (v := 7) hx hb dL_holds_395 (by decide) ?_
            obtain ⟨r1, hr1, hf⟩ := bndS hf
            refine q_callVr (r := sxw cI sa S) (rest := []) (st1 := [.int r1]) [.int x7, .int 7] ⟨hx, hb, hml, hown, hts⟩ (c_X5_guest hr1) (cwV 2 hts gL_holds_X5_guest rfl rfl rfl (by decide +kernel) ⟨Nat.le_of_ble_eq_true rfl, Nat.le_of_ble_eq_true rfl⟩) hw xa_0 rfl rfl hl.1 rfl (Nat.le_of_ble_eq_true rfl) dL_holds_397 ⟨Nat.le_of_ble_eq_true rfl, Nat.le_of_ble_eq_true rfl⟩ rfl (fun H locs hw => ?_)
            refine lv_if_ne (tgt := 424) hx hb dL_holds_400 (by decide) (fun hc => ?_) (fun hc => ?_)
            · have hf := iteF hf hc
              exact B424 sa S x1 x3 x4 x5 x7 H locs ls hf hw (lv_sub hl [0, 1, 2, 3, 4, 5, 6] rfl)
            · have hf := iteT hf hc
              refine lv_aload_n hx hb dL_holds_403 rfl (lv_at hl 0 rfl) ?_
              refine lv_iload hx hb dL_holds_404 (lv_at hl 6 rfl) ?_
              refine lv_bipush (v := 9) hx hb dL_holds_406 (by decide) ?_
              obtain ⟨r2, hr2, hf⟩ := bndS hf
              refine q_callVr (r := sxw cI sa S) (rest := []) (st1 := [.int r2]) [.int x7, .int 9] ⟨hx, hb, hml, hown, hts⟩ (c_X5_guest hr2) (cwV 2 hts gL_holds_X5_guest rfl rfl rfl (by decide +kernel) ⟨Nat.le_of_ble_eq_true rfl, Nat.le_of_ble_eq_true rfl⟩) hw xa_0 rfl rfl hl.1 rfl (Nat.le_of_ble_eq_true rfl) dL_holds_408 ⟨Nat.le_of_ble_eq_true rfl, Nat.le_of_ble_eq_true rfl⟩ rfl (fun H locs hw => ?_)
              refine lv_aload_n hx hb dL_holds_411 rfl (lv_at hl 0 rfl) ?_
              refine lv_iload hx hb dL_holds_412 (lv_at hl 7 rfl) ?_
              obtain ⟨r3, hr3, hf⟩ := bndS hf
              refine q_callVr (r := sxw cI sa S) (rest := [.int r2]) (st1 := [.int r3, .int r2]) [.int x10] ⟨hx, hb, hml, hown, hts⟩ (c_X5_line hr3) (cwV 1 hts gL_holds_X5_line rfl rfl rfl (by decide +kernel) ⟨Nat.le_of_ble_eq_true rfl, Nat.le_of_ble_eq_true rfl⟩) hw xa_0 rfl rfl hl.1 rfl (Nat.le_of_ble_eq_true rfl) dL_holds_414 ⟨Nat.le_of_ble_eq_true rfl, Nat.le_of_ble_eq_true rfl⟩ rfl (fun H locs hw => ?_)
              refine lv_icmp_ge (tgt := 424) hx hb dL_holds_417 (by decide) (fun hc => ?_) (fun hc => ?_)
              · have hf := iteT hf hc
                exact B424 sa S x1 x3 x4 x5 x7 H locs ls hf hw (lv_sub hl [0, 1, 2, 3, 4, 5, 6] rfl)
              · have hf := iteF hf hc
                exact B420 sa S x1 x3 x4 x5 x7 H locs ls hf hw (lv_sub hl [0, 1, 2, 3, 4, 5, 6] rfl)
      have B368 : ∀ (sa : Nat) (S : (Nat → Int32)) (x1 : Int32) (x3 : Int32) (x4 : Int32) (x5 : Int32) (x7 : Int32) (x10 : Int32) (y0 : Int32) (H : Heap) (locs : List Loc) (ls : Array Slot), f_L_holds_b368 (f_L_holds_l92 O K n92) O K S x1 x3 x4 x5 x7 x10 y0 = some r → WH D cI cR A (xws cI cR ad O K ++ sxw cI sa S) s H locs → lv_has ls 11 [(0, .ref (ad 0)), (1, .int x1), (2, .ref sa), (3, .int x3), (4, .int x4), (5, .int x5), (7, .int x7), (10, .int x10)] → W p l e (headSpec wsL_holds ({ frames := 6, cells := 1, slots := 6, locals := 130 })).room s m ([.ref (ad 0)] : List Value).toArray below meth c H locs 1 6 (MQ below (QV (some (.int r)) D A (xws cI cR ad O K)) (([.ref (ad 0)] : List Value)).toArray s 1 6 A) (F0 m 368 ls [.int y0]) := by
        intro sa S x1 x3 x4 x5 x7 x10 y0 H locs ls hf hw hl
        unfold f_L_holds_b368 at hf
        refine lv_aload_n hx hb dL_holds_368 rfl (lv_at hl 0 rfl) ?_
        refine lv_iload hx hb dL_holds_369 (lv_at hl 6 rfl) ?_
        refine lv_bipush (v := 9) hx hb dL_holds_371 (by decide) ?_
        obtain ⟨r1, hr1, hf⟩ := bndS hf
        refine q_callVr (r := sxw cI sa S) (rest := [.int y0]) (st1 := [.int r1, .int y0]) [.int x7, .int 9] ⟨hx, hb, hml, hown, hts⟩ (c_X5_guest hr1) (cwV 2 hts gL_holds_X5_guest rfl rfl rfl (by decide +kernel) ⟨Nat.le_of_ble_eq_true rfl, Nat.le_of_ble_eq_true rfl⟩) hw xa_0 rfl rfl hl.1 rfl (Nat.le_of_ble_eq_true rfl) dL_holds_373 ⟨Nat.le_of_ble_eq_true rfl, Nat.le_of_ble_eq_true rfl⟩ rfl (fun H locs hw => ?_)
        refine lv_if_ge (tgt := 383) hx hb dL_holds_376 (by decide) (fun hc => ?_) (fun hc => ?_)
        · have hf := iteT hf hc
          refine lv_iconst (v := 0) hx hb dL_holds_383 (by decide) ?_
          exact B384 sa S x1 x3 x4 x5 x7 x10 0 y0 H locs ls hf hw (lv_sub hl [0, 1, 2, 3, 4, 5, 6, 7] rfl)
        · have hf := iteF hf hc
          refine lv_iconst (v := 1) hx hb dL_holds_379 (by decide) ?_
          refine lv_goto (tgt := 384) hx hb dL_holds_380 (by decide) ?_
          exact B384 sa S x1 x3 x4 x5 x7 x10 1 y0 H locs ls hf hw (lv_sub hl [0, 1, 2, 3, 4, 5, 6, 7] rfl)
      have B358 : ∀ (sa : Nat) (S : (Nat → Int32)) (x1 : Int32) (x3 : Int32) (x4 : Int32) (x5 : Int32) (x7 : Int32) (x10 : Int32) (H : Heap) (locs : List Loc) (ls : Array Slot), f_L_holds_b358 (f_L_holds_l92 O K n92) O K S x1 x3 x4 x5 x7 x10 = some r → WH D cI cR A (xws cI cR ad O K ++ sxw cI sa S) s H locs → lv_has ls 11 [(0, .ref (ad 0)), (1, .int x1), (2, .ref sa), (3, .int x3), (4, .int x4), (5, .int x5), (7, .int x7), (10, .int x10)] → W p l e (headSpec wsL_holds ({ frames := 6, cells := 1, slots := 6, locals := 130 })).room s m ([.ref (ad 0)] : List Value).toArray below meth c H locs 1 6 (MQ below (QV (some (.int r)) D A (xws cI cR ad O K)) (([.ref (ad 0)] : List Value)).toArray s 1 6 A) (F0 m 358 ls []) := by
        intro sa S x1 x3 x4 x5 x7 x10 H locs ls hf hw hl
        unfold f_L_holds_b358 at hf
        refine lv_iload hx hb dL_holds_358 (lv_at hl 7 rfl) ?_
        refine lv_if_ge (tgt := 367) hx hb dL_holds_360 (by decide) (fun hc => ?_) (fun hc => ?_)
        · have hf := iteT hf hc
          refine lv_iconst (v := 0) hx hb dL_holds_367 (by decide) ?_
          exact B368 sa S x1 x3 x4 x5 x7 x10 0 H locs ls hf hw (lv_sub hl [0, 1, 2, 3, 4, 5, 6, 7] rfl)
        · have hf := iteF hf hc
          refine lv_iconst (v := 1) hx hb dL_holds_363 (by decide) ?_
          refine lv_goto (tgt := 368) hx hb dL_holds_364 (by decide) ?_
          exact B368 sa S x1 x3 x4 x5 x7 x10 1 H locs ls hf hw (lv_sub hl [0, 1, 2, 3, 4, 5, 6, 7] rfl)
      have B348 : ∀ (sa : Nat) (S : (Nat → Int32)) (x1 : Int32) (x3 : Int32) (x4 : Int32) (x5 : Int32) (x7 : Int32) (x8 : Int32) (x9 : Int32) (x10 : Int32) (H : Heap) (locs : List Loc) (ls : Array Slot), f_L_holds_b348 (f_L_holds_l92 O K n92) O K S x1 x3 x4 x5 x7 x8 x9 x10 = some r → WH D cI cR A (xws cI cR ad O K ++ sxw cI sa S) s H locs → lv_has ls 11 [(0, .ref (ad 0)), (1, .int x1), (2, .ref sa), (3, .int x3), (4, .int x4), (5, .int x5), (7, .int x7), (8, .int x8), (9, .int x9), (10, .int x10)] → W p l e (headSpec wsL_holds ({ frames := 6, cells := 1, slots := 6, locals := 130 })).room s m ([.ref (ad 0)] : List Value).toArray below meth c H locs 1 6 (MQ below (QV (some (.int r)) D A (xws cI cR ad O K)) (([.ref (ad 0)] : List Value)).toArray s 1 6 A) (F0 m 348 ls []) := by
        intro sa S x1 x3 x4 x5 x7 x8 x9 x10 H locs ls hf hw hl
        unfold f_L_holds_b348 at hf
        refine lv_iload hx hb dL_holds_348 (lv_at hl 7 rfl) ?_
        refine lv_if_ge (tgt := 358) hx hb dL_holds_350 (by decide) (fun hc => ?_) (fun hc => ?_)
        · have hf := iteT hf hc
          exact B358 sa S x1 x3 x4 x5 x7 x10 H locs ls hf hw (lv_sub hl [0, 1, 2, 3, 4, 5, 6, 9] rfl)
        · have hf := iteF hf hc
          refine lv_iload hx hb dL_holds_353 (lv_at hl 8 rfl) ?_
          refine lv_if_lt (tgt := 424) hx hb dL_holds_355 (by decide) (fun hc => ?_) (fun hc => ?_)
          · have hf := iteT hf hc
            exact B424 sa S x1 x3 x4 x5 x7 H locs ls hf hw (lv_sub hl [0, 1, 2, 3, 4, 5, 6] rfl)
          · have hf := iteF hf hc
            exact B358 sa S x1 x3 x4 x5 x7 x10 H locs ls hf hw (lv_sub hl [0, 1, 2, 3, 4, 5, 6, 9] rfl)
      have B324 : ∀ (sa : Nat) (S : (Nat → Int32)) (x1 : Int32) (x3 : Int32) (x4 : Int32) (x5 : Int32) (x7 : Int32) (x8 : Int32) (x9 : Int32) (x10 : Int32) (H : Heap) (locs : List Loc) (ls : Array Slot), f_L_holds_b324 (f_L_holds_l92 O K n92) O K S x1 x3 x4 x5 x7 x8 x9 x10 = some r → WH D cI cR A (xws cI cR ad O K ++ sxw cI sa S) s H locs → lv_has ls 11 [(0, .ref (ad 0)), (1, .int x1), (2, .ref sa), (3, .int x3), (4, .int x4), (5, .int x5), (7, .int x7), (8, .int x8), (9, .int x9), (10, .int x10)] → W p l e (headSpec wsL_holds ({ frames := 6, cells := 1, slots := 6, locals := 130 })).room s m ([.ref (ad 0)] : List Value).toArray below meth c H locs 1 6 (MQ below (QV (some (.int r)) D A (xws cI cR ad O K)) (([.ref (ad 0)] : List Value)).toArray s 1 6 A) (F0 m 324 ls []) := by
        intro sa S x1 x3 x4 x5 x7 x8 x9 x10 H locs ls hf hw hl
        unfold f_L_holds_b324 at hf
        refine lv_iload hx hb dL_holds_324 (lv_at hl 8 rfl) ?_
        refine lv_if_lt (tgt := 348) hx hb dL_holds_326 (by decide) (fun hc => ?_) (fun hc => ?_)
        · have hf := iteT hf hc
          exact B348 sa S x1 x3 x4 x5 x7 x8 x9 x10 H locs ls hf hw (lv_sub hl [0, 1, 2, 3, 4, 5, 6, 7, 8, 9] rfl)
        · have hf := iteF hf hc
          refine lv_iload hx hb dL_holds_329 (lv_at hl 8 rfl) ?_
          refine lv_iload hx hb dL_holds_331 (lv_at hl 6 rfl) ?_
          refine lv_icmp_eq (tgt := 424) hx hb dL_holds_333 (by decide) (fun hc => ?_) (fun hc => ?_)
          · have hf := iteT hf hc
            exact B424 sa S x1 x3 x4 x5 x7 H locs ls hf hw (lv_sub hl [0, 1, 2, 3, 4, 5, 6] rfl)
          · have hf := iteF hf hc
            refine lv_aload_n hx hb dL_holds_336 rfl (lv_at hl 0 rfl) ?_
            refine lv_iload hx hb dL_holds_337 (lv_at hl 8 rfl) ?_
            refine lv_iconst (v := 4) hx hb dL_holds_339 (by decide) ?_
            obtain ⟨r1, hr1, hf⟩ := bndS hf
            refine q_callVr (r := sxw cI sa S) (rest := []) (st1 := [.int r1]) [.int x9, .int 4] ⟨hx, hb, hml, hown, hts⟩ (c_X5_guest hr1) (cwV 2 hts gL_holds_X5_guest rfl rfl rfl (by decide +kernel) ⟨Nat.le_of_ble_eq_true rfl, Nat.le_of_ble_eq_true rfl⟩) hw xa_0 rfl rfl hl.1 rfl (Nat.le_of_ble_eq_true rfl) dL_holds_340 ⟨Nat.le_of_ble_eq_true rfl, Nat.le_of_ble_eq_true rfl⟩ rfl (fun H locs hw => ?_)
            refine lv_iload hx hb dL_holds_343 (lv_at hl 6 rfl) ?_
            refine lv_icmp_ne (tgt := 424) hx hb dL_holds_345 (by decide) (fun hc => ?_) (fun hc => ?_)
            · have hf := iteF hf hc
              exact B424 sa S x1 x3 x4 x5 x7 H locs ls hf hw (lv_sub hl [0, 1, 2, 3, 4, 5, 6] rfl)
            · have hf := iteT hf hc
              exact B348 sa S x1 x3 x4 x5 x7 x8 x9 x10 H locs ls hf hw (lv_sub hl [0, 1, 2, 3, 4, 5, 6, 7, 8, 9] rfl)
      have B296 : ∀ (sa : Nat) (S : (Nat → Int32)) (x1 : Int32) (x3 : Int32) (x4 : Int32) (x5 : Int32) (x7 : Int32) (x8 : Int32) (x9 : Int32) (x10 : Int32) (y0 : Int32) (y1 : Int32) (H : Heap) (locs : List Loc) (ls : Array Slot), f_L_holds_b296 (f_L_holds_l92 O K n92) O K S x1 x3 x4 x5 x7 x8 x9 x10 y0 y1 = some r → WH D cI cR A (xws cI cR ad O K ++ sxw cI sa S) s H locs → lv_has ls 11 [(0, .ref (ad 0)), (1, .int x1), (2, .ref sa), (3, .int x3), (4, .int x4), (5, .int x5), (7, .int x7), (8, .int x8), (9, .int x9), (10, .int x10)] → W p l e (headSpec wsL_holds ({ frames := 6, cells := 1, slots := 6, locals := 130 })).room s m ([.ref (ad 0)] : List Value).toArray below meth c H locs 1 6 (MQ below (QV (some (.int r)) D A (xws cI cR ad O K)) (([.ref (ad 0)] : List Value)).toArray s 1 6 A) (F0 m 296 ls [.int y0, .int y1]) := by
        intro sa S x1 x3 x4 x5 x7 x8 x9 x10 y0 y1 H locs ls hf hw hl
        unfold f_L_holds_b296 at hf
        refine lv_icmp_ne (tgt := 424) hx hb dL_holds_296 (by decide) (fun hc => ?_) (fun hc => ?_)
        · have hf := iteF hf hc
          exact B424 sa S x1 x3 x4 x5 x7 H locs ls hf hw (lv_sub hl [0, 1, 2, 3, 4, 5, 6] rfl)
        · have hf := iteT hf hc
          refine lv_iload hx hb dL_holds_299 (lv_at hl 7 rfl) ?_
          refine lv_if_lt (tgt := 324) hx hb dL_holds_301 (by decide) (fun hc => ?_) (fun hc => ?_)
          · have hf := iteT hf hc
            exact B324 sa S x1 x3 x4 x5 x7 x8 x9 x10 H locs ls hf hw (lv_sub hl [0, 1, 2, 3, 4, 5, 6, 7, 8, 9] rfl)
          · have hf := iteF hf hc
            refine lv_iload hx hb dL_holds_304 (lv_at hl 7 rfl) ?_
            refine lv_iload hx hb dL_holds_306 (lv_at hl 6 rfl) ?_
            refine lv_icmp_eq (tgt := 324) hx hb dL_holds_308 (by decide) (fun hc => ?_) (fun hc => ?_)
            · have hf := iteT hf hc
              exact B324 sa S x1 x3 x4 x5 x7 x8 x9 x10 H locs ls hf hw (lv_sub hl [0, 1, 2, 3, 4, 5, 6, 7, 8, 9] rfl)
            · have hf := iteF hf hc
              refine lv_aload_n hx hb dL_holds_311 rfl (lv_at hl 0 rfl) ?_
              refine lv_iload hx hb dL_holds_312 (lv_at hl 7 rfl) ?_
              refine lv_bipush (v := 10) hx hb dL_holds_314 (by decide) ?_
              obtain ⟨r1, hr1, hf⟩ := bndS hf
              refine q_callVr (r := sxw cI sa S) (rest := []) (st1 := [.int r1]) [.int x8, .int 10] ⟨hx, hb, hml, hown, hts⟩ (c_X5_guest hr1) (cwV 2 hts gL_holds_X5_guest rfl rfl rfl (by decide +kernel) ⟨Nat.le_of_ble_eq_true rfl, Nat.le_of_ble_eq_true rfl⟩) hw xa_0 rfl rfl hl.1 rfl (Nat.le_of_ble_eq_true rfl) dL_holds_316 ⟨Nat.le_of_ble_eq_true rfl, Nat.le_of_ble_eq_true rfl⟩ rfl (fun H locs hw => ?_)
              refine lv_iload hx hb dL_holds_319 (lv_at hl 6 rfl) ?_
              refine lv_icmp_ne (tgt := 424) hx hb dL_holds_321 (by decide) (fun hc => ?_) (fun hc => ?_)
              · have hf := iteF hf hc
                exact B424 sa S x1 x3 x4 x5 x7 H locs ls hf hw (lv_sub hl [0, 1, 2, 3, 4, 5, 6] rfl)
              · have hf := iteT hf hc
                exact B324 sa S x1 x3 x4 x5 x7 x8 x9 x10 H locs ls hf hw (lv_sub hl [0, 1, 2, 3, 4, 5, 6, 7, 8, 9] rfl)
      have B265 : ∀ (sa : Nat) (S : (Nat → Int32)) (x1 : Int32) (x3 : Int32) (x4 : Int32) (x6 : Int32) (x7 : Int32) (x8 : Int32) (x9 : Int32) (x10 : Int32) (y0 : Int32) (y1 : Int32) (H : Heap) (locs : List Loc) (ls : Array Slot), f_L_holds_b265 (f_L_holds_l92 O K n92) O K S x1 x3 x4 x6 x7 x8 x9 x10 y0 y1 = some r → WH D cI cR A (xws cI cR ad O K ++ sxw cI sa S) s H locs → lv_has ls 11 [(0, .ref (ad 0)), (1, .int x1), (2, .ref sa), (3, .int x3), (4, .int x4), (6, .int x6), (7, .int x7), (8, .int x8), (9, .int x9), (10, .int x10)] → W p l e (headSpec wsL_holds ({ frames := 6, cells := 1, slots := 6, locals := 130 })).room s m ([.ref (ad 0)] : List Value).toArray below meth c H locs 1 6 (MQ below (QV (some (.int r)) D A (xws cI cR ad O K)) (([.ref (ad 0)] : List Value)).toArray s 1 6 A) (F0 m 265 ls [.int y0, .int y1]) := by
        intro sa S x1 x3 x4 x6 x7 x8 x9 x10 y0 y1 H locs ls hf hw hl
        unfold f_L_holds_b265 at hf
        refine lv_iadd hx hb dL_holds_265 ?_
        refine lv_istore (lv' := [(5, .int (y1 + y0)), (0, .ref (ad 0)), (1, .int x1), (2, .ref sa), (3, .int x3), (4, .int x4), (6, .int x6), (7, .int x7), (8, .int x8), (9, .int x9), (10, .int x10)]) hx hb dL_holds_266 hl (by decide) rfl (fun ls hl => ?_)
        refine lv_iload hx hb dL_holds_268 (lv_at hl 6 rfl) ?_
        refine lv_if_eq (tgt := 424) hx hb dL_holds_270 (by decide) (fun hc => ?_) (fun hc => ?_)
        · have hf := iteT hf hc
          exact B424 sa S x1 x3 x4 (y1 + y0) x7 H locs ls hf hw (lv_sub hl [1, 2, 3, 4, 5, 0, 7] rfl)
        · have hf := iteF hf hc
          refine lv_aload_n hx hb dL_holds_273 rfl (lv_at hl 1 rfl) ?_
          refine lv_iload hx hb dL_holds_274 (lv_at hl 7 rfl) ?_
          refine lv_iconst (v := 5) hx hb dL_holds_276 (by decide) ?_
          obtain ⟨r1, hr1, hf⟩ := bndS hf
          refine q_callVr (r := sxw cI sa S) (rest := []) (st1 := [.int r1]) [.int x7, .int 5] ⟨hx, hb, hml, hown, hts⟩ (c_X5_guest hr1) (cwV 2 hts gL_holds_X5_guest rfl rfl rfl (by decide +kernel) ⟨Nat.le_of_ble_eq_true rfl, Nat.le_of_ble_eq_true rfl⟩) hw xa_0 rfl rfl hl.1 rfl (Nat.le_of_ble_eq_true rfl) dL_holds_277 ⟨Nat.le_of_ble_eq_true rfl, Nat.le_of_ble_eq_true rfl⟩ rfl (fun H locs hw => ?_)
          refine lv_iload hx hb dL_holds_280 (lv_at hl 8 rfl) ?_
          refine lv_if_ge (tgt := 289) hx hb dL_holds_282 (by decide) (fun hc => ?_) (fun hc => ?_)
          · have hf := iteT hf hc
            refine lv_aload_n hx hb dL_holds_289 rfl (lv_at hl 1 rfl) ?_
            refine lv_iload hx hb dL_holds_290 (lv_at hl 8 rfl) ?_
            refine lv_iconst (v := 3) hx hb dL_holds_292 (by decide) ?_
            obtain ⟨r2, hr2, hf⟩ := bndS hf
            refine q_callVr (r := sxw cI sa S) (rest := [.int r1]) (st1 := [.int r2, .int r1]) [.int x8, .int 3] ⟨hx, hb, hml, hown, hts⟩ (c_X5_guest hr2) (cwV 2 hts gL_holds_X5_guest rfl rfl rfl (by decide +kernel) ⟨Nat.le_of_ble_eq_true rfl, Nat.le_of_ble_eq_true rfl⟩) hw xa_0 rfl rfl hl.1 rfl (Nat.le_of_ble_eq_true rfl) dL_holds_293 ⟨Nat.le_of_ble_eq_true rfl, Nat.le_of_ble_eq_true rfl⟩ rfl (fun H locs hw => ?_)
            exact B296 sa S x1 x3 x4 (y1 + y0) x7 x8 x9 x10 r2 r1 H locs ls hf hw (lv_sub hl [1, 2, 3, 4, 5, 0, 7, 8, 9, 10] rfl)
          · have hf := iteF hf hc
            refine lv_iconst (v := 0) hx hb dL_holds_285 (by decide) ?_
            refine lv_goto (tgt := 296) hx hb dL_holds_286 (by decide) ?_
            exact B296 sa S x1 x3 x4 (y1 + y0) x7 x8 x9 x10 0 r1 H locs ls hf hw (lv_sub hl [1, 2, 3, 4, 5, 0, 7, 8, 9, 10] rfl)
      have B228 : ∀ (sa : Nat) (S : (Nat → Int32)) (x1 : Int32) (x3 : Int32) (x5 : Int32) (x6 : Int32) (x7 : Int32) (x8 : Int32) (x9 : Int32) (x10 : Int32) (y0 : Int32) (y1 : Int32) (H : Heap) (locs : List Loc) (ls : Array Slot), f_L_holds_b228 (f_L_holds_l92 O K n92) O K S x1 x3 x5 x6 x7 x8 x9 x10 y0 y1 = some r → WH D cI cR A (xws cI cR ad O K ++ sxw cI sa S) s H locs → lv_has ls 11 [(0, .ref (ad 0)), (1, .int x1), (2, .ref sa), (3, .int x3), (5, .int x5), (6, .int x6), (7, .int x7), (8, .int x8), (9, .int x9), (10, .int x10)] → W p l e (headSpec wsL_holds ({ frames := 6, cells := 1, slots := 6, locals := 130 })).room s m ([.ref (ad 0)] : List Value).toArray below meth c H locs 1 6 (MQ below (QV (some (.int r)) D A (xws cI cR ad O K)) (([.ref (ad 0)] : List Value)).toArray s 1 6 A) (F0 m 228 ls [.int y0, .int y1]) := by
        intro sa S x1 x3 x5 x6 x7 x8 x9 x10 y0 y1 H locs ls hf hw hl
        unfold f_L_holds_b228 at hf
        refine lv_iadd hx hb dL_holds_228 ?_
        refine lv_istore (lv' := [(4, .int (y1 + y0)), (0, .ref (ad 0)), (1, .int x1), (2, .ref sa), (3, .int x3), (5, .int x5), (6, .int x6), (7, .int x7), (8, .int x8), (9, .int x9), (10, .int x10)]) hx hb dL_holds_229 hl (by decide) rfl (fun ls hl => ?_)
        refine lv_iload hx hb dL_holds_231 (lv_at hl 5 rfl) ?_
        refine lv_aload_n hx hb dL_holds_233 rfl (lv_at hl 1 rfl) ?_
        refine lv_iload hx hb dL_holds_234 (lv_at hl 7 rfl) ?_
        refine lv_iconst (v := 5) hx hb dL_holds_236 (by decide) ?_
        obtain ⟨r1, hr1, hf⟩ := bndS hf
        refine q_callVr (r := sxw cI sa S) (rest := [.int x5]) (st1 := [.int r1, .int x5]) [.int x7, .int 5] ⟨hx, hb, hml, hown, hts⟩ (c_X5_guest hr1) (cwV 2 hts gL_holds_X5_guest rfl rfl rfl (by decide +kernel) ⟨Nat.le_of_ble_eq_true rfl, Nat.le_of_ble_eq_true rfl⟩) hw xa_0 rfl rfl hl.1 rfl (Nat.le_of_ble_eq_true rfl) dL_holds_237 ⟨Nat.le_of_ble_eq_true rfl, Nat.le_of_ble_eq_true rfl⟩ rfl (fun H locs hw => ?_)
        refine lv_aload_n hx hb dL_holds_240 rfl (lv_at hl 1 rfl) ?_
        refine lv_iconst (v := 0) hx hb dL_holds_241 (by decide) ?_
        refine lv_aload_n hx hb dL_holds_242 rfl (lv_at hl 1 rfl) ?_
        refine lv_iload hx hb dL_holds_243 (lv_at hl 7 rfl) ?_
        refine lv_iconst (v := 0) hx hb dL_holds_245 (by decide) ?_
        obtain ⟨r2, hr2, hf⟩ := bndS hf
        refine q_callVr (r := sxw cI sa S) (rest := [.int 0, .ref (ad 0), .int r1, .int x5]) (st1 := [.int r2, .int 0, .ref (ad 0), .int r1, .int x5]) [.int x7, .int 0] ⟨hx, hb, hml, hown, hts⟩ (c_X5_guest hr2) (cwV 2 hts gL_holds_X5_guest rfl rfl rfl (by decide +kernel) ⟨Nat.le_of_ble_eq_true rfl, Nat.le_of_ble_eq_true rfl⟩) hw xa_0 rfl rfl hl.1 rfl (Nat.le_of_ble_eq_true rfl) dL_holds_246 ⟨Nat.le_of_ble_eq_true rfl, Nat.le_of_ble_eq_true rfl⟩ rfl (fun H locs hw => ?_)
        refine lv_aload_n hx hb dL_holds_249 rfl (lv_at hl 1 rfl) ?_
        refine lv_iconst (v := 0) hx hb dL_holds_250 (by decide) ?_
        obtain ⟨r3, hr3, hf⟩ := bndS hf
        refine q_callVr (r := sxw cI sa S) (rest := [.int r2, .int 0, .ref (ad 0), .int r1, .int x5]) (st1 := [.int r3, .int r2, .int 0, .ref (ad 0), .int r1, .int x5]) [.int 0] ⟨hx, hb, hml, hown, hts⟩ (c_X5_count hr3) (cwV 1 hts gL_holds_X5_count rfl rfl rfl (by decide +kernel) ⟨Nat.le_of_ble_eq_true rfl, Nat.le_of_ble_eq_true rfl⟩) hw xa_0 rfl rfl hl.1 rfl (Nat.le_of_ble_eq_true rfl) dL_holds_251 ⟨Nat.le_of_ble_eq_true rfl, Nat.le_of_ble_eq_true rfl⟩ rfl (fun H locs hw => ?_)
        obtain ⟨r4, hr4, hf⟩ := bndS hf
        refine q_callVr (r := sxw cI sa S) (rest := [.int r1, .int x5]) (st1 := [.int r4, .int r1, .int x5]) [.int 0, .int r2, .int r3] ⟨hx, hb, hml, hown, hts⟩ (c_X5_law hr4) (cwV 3 hts gL_holds_X5_law rfl rfl rfl (by decide +kernel) ⟨Nat.le_of_ble_eq_true rfl, Nat.le_of_ble_eq_true rfl⟩) hw xa_0 rfl rfl hl.1 rfl (Nat.le_of_ble_eq_true rfl) dL_holds_254 ⟨Nat.le_of_ble_eq_true rfl, Nat.le_of_ble_eq_true rfl⟩ rfl (fun H locs hw => ?_)
        refine lv_icmp_gt (tgt := 264) hx hb dL_holds_257 (by decide) (fun hc => ?_) (fun hc => ?_)
        · have hf := iteT hf hc
          refine lv_iconst (v := 0) hx hb dL_holds_264 (by decide) ?_
          exact B265 sa S x1 x3 (y1 + y0) x6 x7 x8 x9 x10 0 x5 H locs ls hf hw (lv_sub hl [1, 2, 3, 4, 0, 6, 7, 8, 9, 10] rfl)
        · have hf := iteF hf hc
          refine lv_iconst (v := 1) hx hb dL_holds_260 (by decide) ?_
          refine lv_goto (tgt := 265) hx hb dL_holds_261 (by decide) ?_
          exact B265 sa S x1 x3 (y1 + y0) x6 x7 x8 x9 x10 1 x5 H locs ls hf hw (lv_sub hl [1, 2, 3, 4, 0, 6, 7, 8, 9, 10] rfl)
      have B186 : ∀ (sa : Nat) (S : (Nat → Int32)) (x1 : Int32) (x3 : Int32) (x4 : Int32) (x5 : Int32) (x6 : Int32) (x7 : Int32) (x8 : Int32) (x9 : Int32) (x10 : Int32) (y0 : Int32) (y1 : Int32) (y2 : Int32) (H : Heap) (locs : List Loc) (ls : Array Slot), f_L_holds_b186 (f_L_holds_l92 O K n92) O K S x1 x3 x4 x5 x6 x7 x8 x9 x10 y0 y1 y2 = some r → WH D cI cR A (xws cI cR ad O K ++ sxw cI sa S) s H locs → lv_has ls 11 [(0, .ref (ad 0)), (1, .int x1), (2, .ref sa), (3, .int x3), (4, .int x4), (5, .int x5), (6, .int x6), (7, .int x7), (8, .int x8), (9, .int x9), (10, .int x10)] → W p l e (headSpec wsL_holds ({ frames := 6, cells := 1, slots := 6, locals := 130 })).room s m ([.ref (ad 0)] : List Value).toArray below meth c H locs 1 6 (MQ below (QV (some (.int r)) D A (xws cI cR ad O K)) (([.ref (ad 0)] : List Value)).toArray s 1 6 A) (F0 m 186 ls [.int y0, .int y1, .int y2, .ref sa]) := by
        intro sa S x1 x3 x4 x5 x6 x7 x8 x9 x10 y0 y1 y2 H locs ls hf hw hl
        unfold f_L_holds_b186 at hf
        refine lv_iadd hx hb dL_holds_186 ?_
        obtain ⟨hg, hf⟩ := gdE hf
        obtain ⟨S1, hS1, hf⟩ := nmE hf
        refine q_iast hx hb hw ((xws cI cR ad O K).length + 0) (wg.trans rfl) (inb_in hg) dL_holds_187 (wset.trans (congrArg (fun z => (xws cI cR ad O K ++ sxw cI sa z)) hS1.symm)) (fun H locs hw => ?_)
        refine lv_aload_n hx hb dL_holds_188 rfl (lv_at hl 2 rfl) ?_
        refine lv_iconst (v := 4) hx hb dL_holds_189 (by decide) ?_
        refine lv_dup2_11 hx hb dL_holds_190 rfl rfl ?_
        obtain ⟨hg, hf⟩ := gdE hf
        obtain ⟨v2, hv2, hf⟩ := nmE hf
        refine q_iald hx hb hw ((xws cI cR ad O K).length + 0) (wg.trans rfl) (inb_in hg) dL_holds_191 ?_
        refine q_is hv2 ?_
        refine lv_aload_n hx hb dL_holds_192 rfl (lv_at hl 0 rfl) ?_
        refine lv_iload hx hb dL_holds_193 (lv_at hl 7 rfl) ?_
        refine lv_bipush (v := 7) hx hb dL_holds_195 (by decide) ?_
        obtain ⟨r3, hr3, hf⟩ := bndS hf
        refine q_callVr (r := sxw cI sa S1) (rest := [.int v2, .int 4, .ref sa]) (st1 := [.int r3, .int v2, .int 4, .ref sa]) [.int x7, .int 7] ⟨hx, hb, hml, hown, hts⟩ (c_X5_guest hr3) (cwV 2 hts gL_holds_X5_guest rfl rfl rfl (by decide +kernel) ⟨Nat.le_of_ble_eq_true rfl, Nat.le_of_ble_eq_true rfl⟩) hw xa_0 rfl rfl hl.1 rfl (Nat.le_of_ble_eq_true rfl) dL_holds_197 ⟨Nat.le_of_ble_eq_true rfl, Nat.le_of_ble_eq_true rfl⟩ rfl (fun H locs hw => ?_)
        refine lv_iadd hx hb dL_holds_200 ?_
        obtain ⟨hg, hf⟩ := gdE hf
        obtain ⟨S4, hS4, hf⟩ := nmE hf
        refine q_iast hx hb hw ((xws cI cR ad O K).length + 0) (wg.trans rfl) (inb_in hg) dL_holds_201 (wset.trans (congrArg (fun z => (xws cI cR ad O K ++ sxw cI sa z)) hS4.symm)) (fun H locs hw => ?_)
        refine lv_iload_n hx hb dL_holds_202 rfl (lv_at hl 3 rfl) ?_
        refine lv_aload_n hx hb dL_holds_203 rfl (lv_at hl 0 rfl) ?_
        refine lv_iload hx hb dL_holds_204 (lv_at hl 7 rfl) ?_
        refine lv_bipush (v := 7) hx hb dL_holds_206 (by decide) ?_
        obtain ⟨r5, hr5, hf⟩ := bndS hf
        refine q_callVr (r := sxw cI sa S4) (rest := [.int x3]) (st1 := [.int r5, .int x3]) [.int x7, .int 7] ⟨hx, hb, hml, hown, hts⟩ (c_X5_guest hr5) (cwV 2 hts gL_holds_X5_guest rfl rfl rfl (by decide +kernel) ⟨Nat.le_of_ble_eq_true rfl, Nat.le_of_ble_eq_true rfl⟩) hw xa_0 rfl rfl hl.1 rfl (Nat.le_of_ble_eq_true rfl) dL_holds_208 ⟨Nat.le_of_ble_eq_true rfl, Nat.le_of_ble_eq_true rfl⟩ rfl (fun H locs hw => ?_)
        refine lv_iload hx hb dL_holds_211 (lv_at hl 7 rfl) ?_
        refine lv_ishl hx hb dL_holds_213 ?_
        refine lv_ior hx hb dL_holds_214 ?_
        obtain ⟨v6, hv6, hf⟩ := nmE hf
        refine q_is hv6 ?_
        refine lv_istore_n (lv' := [(3, .int v6), (0, .ref (ad 0)), (1, .int x1), (2, .ref sa), (4, .int x4), (5, .int x5), (6, .int x6), (7, .int x7), (8, .int x8), (9, .int x9), (10, .int x10)]) hx hb dL_holds_215 rfl hl (by decide) rfl (fun ls hl => ?_)
        refine lv_iload hx hb dL_holds_216 (lv_at hl 4 rfl) ?_
        refine lv_iload hx hb dL_holds_218 (lv_at hl 10 rfl) ?_
        refine lv_if_ge (tgt := 227) hx hb dL_holds_220 (by decide) (fun hc => ?_) (fun hc => ?_)
        · have hf := iteT hf hc
          refine lv_iconst (v := 1) hx hb dL_holds_227 (by decide) ?_
          exact B228 sa S4 x1 v6 x5 x6 x7 x8 x9 x10 1 x4 H locs ls hf hw (lv_sub hl [1, 2, 3, 0, 5, 6, 7, 8, 9, 10] rfl)
        · have hf := iteF hf hc
          refine lv_iconst (v := 0) hx hb dL_holds_223 (by decide) ?_
          refine lv_goto (tgt := 228) hx hb dL_holds_224 (by decide) ?_
          exact B228 sa S4 x1 v6 x5 x6 x7 x8 x9 x10 0 x4 H locs ls hf hw (lv_sub hl [1, 2, 3, 0, 5, 6, 7, 8, 9, 10] rfl)
      intro sa S x1 x3 x4 x5 x6 x7 H locs ls hf hw hl
      simp only [f_L_holds_l92] at hf
      refine lv_iload hx hb dL_holds_92 (lv_at hl 7 rfl) ?_
      refine lv_iload_n hx hb dL_holds_94 rfl (lv_at hl 1 rfl) ?_
      refine lv_icmp_ge (tgt := 500) hx hb dL_holds_95 (by decide) (fun hc => ?_) (fun hc => ?_)
      · have hf := iteT hf hc
        refine lv_iconst (v := 0) hx hb dL_holds_500 (by decide) ?_
        refine lv_istore (lv' := [(7, .int 0), (0, .ref (ad 0)), (1, .int x1), (2, .ref sa), (3, .int x3), (4, .int x4), (5, .int x5), (6, .int x6)]) hx hb dL_holds_501 hl (by decide) rfl (fun ls hl => ?_)
        exact L503 fuelN sa S x1 x3 x4 x5 x6 0 H locs ls hf hw (lv_sub hl [1, 2, 3, 4, 5, 6, 7, 0] rfl)
      · have hf := iteF hf hc
        refine lv_aload_n hx hb dL_holds_98 rfl (lv_at hl 0 rfl) ?_
        refine lv_iload hx hb dL_holds_99 (lv_at hl 7 rfl) ?_
        refine lv_iconst (v := 4) hx hb dL_holds_101 (by decide) ?_
        obtain ⟨r1, hr1, hf⟩ := bndS hf
        refine q_callVr (r := sxw cI sa S) (rest := []) (st1 := [.int r1]) [.int x7, .int 4] ⟨hx, hb, hml, hown, hts⟩ (c_X5_guest hr1) (cwV 2 hts gL_holds_X5_guest rfl rfl rfl (by decide +kernel) ⟨Nat.le_of_ble_eq_true rfl, Nat.le_of_ble_eq_true rfl⟩) hw xa_0 rfl rfl hl.1 rfl (Nat.le_of_ble_eq_true rfl) dL_holds_102 ⟨Nat.le_of_ble_eq_true rfl, Nat.le_of_ble_eq_true rfl⟩ rfl (fun H locs hw => ?_)
        refine lv_istore (lv' := [(8, .int r1), (0, .ref (ad 0)), (1, .int x1), (2, .ref sa), (3, .int x3), (4, .int x4), (5, .int x5), (6, .int x6), (7, .int x7)]) hx hb dL_holds_105 hl (by decide) rfl (fun ls hl => ?_)
        refine lv_aload_n hx hb dL_holds_107 rfl (lv_at hl 1 rfl) ?_
        refine lv_iload hx hb dL_holds_108 (lv_at hl 8 rfl) ?_
        refine lv_bipush (v := 10) hx hb dL_holds_110 (by decide) ?_
        obtain ⟨r2, hr2, hf⟩ := bndS hf
        refine q_callVr (r := sxw cI sa S) (rest := []) (st1 := [.int r2]) [.int x7, .int 10] ⟨hx, hb, hml, hown, hts⟩ (c_X5_guest hr2) (cwV 2 hts gL_holds_X5_guest rfl rfl rfl (by decide +kernel) ⟨Nat.le_of_ble_eq_true rfl, Nat.le_of_ble_eq_true rfl⟩) hw xa_0 rfl rfl hl.1 rfl (Nat.le_of_ble_eq_true rfl) dL_holds_112 ⟨Nat.le_of_ble_eq_true rfl, Nat.le_of_ble_eq_true rfl⟩ rfl (fun H locs hw => ?_)
        refine lv_istore (lv' := [(9, .int r2), (8, .int r1), (0, .ref (ad 0)), (1, .int x1), (2, .ref sa), (3, .int x3), (4, .int x4), (5, .int x5), (6, .int x6), (7, .int x7)]) hx hb dL_holds_115 hl (by decide) rfl (fun ls hl => ?_)
        refine lv_aload_n hx hb dL_holds_117 rfl (lv_at hl 2 rfl) ?_
        refine lv_iload hx hb dL_holds_118 (lv_at hl 9 rfl) ?_
        refine lv_bipush (v := 8) hx hb dL_holds_120 (by decide) ?_
        obtain ⟨r3, hr3, hf⟩ := bndS hf
        refine q_callVr (r := sxw cI sa S) (rest := []) (st1 := [.int r3]) [.int x7, .int 8] ⟨hx, hb, hml, hown, hts⟩ (c_X5_guest hr3) (cwV 2 hts gL_holds_X5_guest rfl rfl rfl (by decide +kernel) ⟨Nat.le_of_ble_eq_true rfl, Nat.le_of_ble_eq_true rfl⟩) hw xa_0 rfl rfl hl.1 rfl (Nat.le_of_ble_eq_true rfl) dL_holds_122 ⟨Nat.le_of_ble_eq_true rfl, Nat.le_of_ble_eq_true rfl⟩ rfl (fun H locs hw => ?_)
        refine lv_istore (lv' := [(10, .int r3), (9, .int r2), (8, .int r1), (0, .ref (ad 0)), (1, .int x1), (2, .ref sa), (3, .int x3), (4, .int x4), (5, .int x5), (6, .int x6), (7, .int x7)]) hx hb dL_holds_125 hl (by decide) rfl (fun ls hl => ?_)
        refine lv_aload_n hx hb dL_holds_127 rfl (lv_at hl 5 rfl) ?_
        refine lv_iconst (v := 0) hx hb dL_holds_128 (by decide) ?_
        refine lv_dup2_11 hx hb dL_holds_129 rfl rfl ?_
        obtain ⟨hg, hf⟩ := gdE hf
        obtain ⟨v4, hv4, hf⟩ := nmE hf
        refine q_iald hx hb hw ((xws cI cR ad O K).length + 0) (wg.trans rfl) (inb_in hg) dL_holds_130 ?_
        refine q_is hv4 ?_
        refine lv_aload_n hx hb dL_holds_131 rfl (lv_at hl 3 rfl) ?_
        refine lv_iload hx hb dL_holds_132 (lv_at hl 10 rfl) ?_
        refine lv_iconst (v := 1) hx hb dL_holds_134 (by decide) ?_
        obtain ⟨r5, hr5, hf⟩ := bndS hf
        refine q_callVr (r := sxw cI sa S) (rest := [.int v4, .int 0, .ref sa]) (st1 := [.int r5, .int v4, .int 0, .ref sa]) [.int x7, .int 1] ⟨hx, hb, hml, hown, hts⟩ (c_X5_guest hr5) (cwV 2 hts gL_holds_X5_guest rfl rfl rfl (by decide +kernel) ⟨Nat.le_of_ble_eq_true rfl, Nat.le_of_ble_eq_true rfl⟩) hw xa_0 rfl rfl hl.1 rfl (Nat.le_of_ble_eq_true rfl) dL_holds_135 ⟨Nat.le_of_ble_eq_true rfl, Nat.le_of_ble_eq_true rfl⟩ rfl (fun H locs hw => ?_)
        refine lv_iadd hx hb dL_holds_138 ?_
        obtain ⟨hg, hf⟩ := gdE hf
        obtain ⟨S6, hS6, hf⟩ := nmE hf
        refine q_iast hx hb hw ((xws cI cR ad O K).length + 0) (wg.trans rfl) (inb_in hg) dL_holds_139 (wset.trans (congrArg (fun z => (xws cI cR ad O K ++ sxw cI sa z)) hS6.symm)) (fun H locs hw => ?_)
        refine lv_aload_n hx hb dL_holds_140 rfl (lv_at hl 5 rfl) ?_
        refine lv_iconst (v := 1) hx hb dL_holds_141 (by decide) ?_
        refine lv_dup2_11 hx hb dL_holds_142 rfl rfl ?_
        obtain ⟨hg, hf⟩ := gdE hf
        obtain ⟨v7, hv7, hf⟩ := nmE hf
        refine q_iald hx hb hw ((xws cI cR ad O K).length + 0) (wg.trans rfl) (inb_in hg) dL_holds_143 ?_
        refine q_is hv7 ?_
        refine lv_aload_n hx hb dL_holds_144 rfl (lv_at hl 3 rfl) ?_
        refine lv_iload hx hb dL_holds_145 (lv_at hl 10 rfl) ?_
        refine lv_iconst (v := 2) hx hb dL_holds_147 (by decide) ?_
        obtain ⟨r8, hr8, hf⟩ := bndS hf
        refine q_callVr (r := sxw cI sa S6) (rest := [.int v7, .int 1, .ref sa]) (st1 := [.int r8, .int v7, .int 1, .ref sa]) [.int x7, .int 2] ⟨hx, hb, hml, hown, hts⟩ (c_X5_guest hr8) (cwV 2 hts gL_holds_X5_guest rfl rfl rfl (by decide +kernel) ⟨Nat.le_of_ble_eq_true rfl, Nat.le_of_ble_eq_true rfl⟩) hw xa_0 rfl rfl hl.1 rfl (Nat.le_of_ble_eq_true rfl) dL_holds_148 ⟨Nat.le_of_ble_eq_true rfl, Nat.le_of_ble_eq_true rfl⟩ rfl (fun H locs hw => ?_)
        refine lv_iadd hx hb dL_holds_151 ?_
        obtain ⟨hg, hf⟩ := gdE hf
        obtain ⟨S9, hS9, hf⟩ := nmE hf
        refine q_iast hx hb hw ((xws cI cR ad O K).length + 0) (wg.trans rfl) (inb_in hg) dL_holds_152 (wset.trans (congrArg (fun z => (xws cI cR ad O K ++ sxw cI sa z)) hS9.symm)) (fun H locs hw => ?_)
        refine lv_aload_n hx hb dL_holds_153 rfl (lv_at hl 5 rfl) ?_
        refine lv_iconst (v := 2) hx hb dL_holds_154 (by decide) ?_
        refine lv_dup2_11 hx hb dL_holds_155 rfl rfl ?_
        obtain ⟨hg, hf⟩ := gdE hf
        obtain ⟨v10, hv10, hf⟩ := nmE hf
        refine q_iald hx hb hw ((xws cI cR ad O K).length + 0) (wg.trans rfl) (inb_in hg) dL_holds_156 ?_
        refine q_is hv10 ?_
        refine lv_aload_n hx hb dL_holds_157 rfl (lv_at hl 3 rfl) ?_
        refine lv_iload hx hb dL_holds_158 (lv_at hl 10 rfl) ?_
        refine lv_iconst (v := 3) hx hb dL_holds_160 (by decide) ?_
        obtain ⟨r11, hr11, hf⟩ := bndS hf
        refine q_callVr (r := sxw cI sa S9) (rest := [.int v10, .int 2, .ref sa]) (st1 := [.int r11, .int v10, .int 2, .ref sa]) [.int x7, .int 3] ⟨hx, hb, hml, hown, hts⟩ (c_X5_guest hr11) (cwV 2 hts gL_holds_X5_guest rfl rfl rfl (by decide +kernel) ⟨Nat.le_of_ble_eq_true rfl, Nat.le_of_ble_eq_true rfl⟩) hw xa_0 rfl rfl hl.1 rfl (Nat.le_of_ble_eq_true rfl) dL_holds_161 ⟨Nat.le_of_ble_eq_true rfl, Nat.le_of_ble_eq_true rfl⟩ rfl (fun H locs hw => ?_)
        refine lv_iadd hx hb dL_holds_164 ?_
        obtain ⟨hg, hf⟩ := gdE hf
        obtain ⟨S12, hS12, hf⟩ := nmE hf
        refine q_iast hx hb hw ((xws cI cR ad O K).length + 0) (wg.trans rfl) (inb_in hg) dL_holds_165 (wset.trans (congrArg (fun z => (xws cI cR ad O K ++ sxw cI sa z)) hS12.symm)) (fun H locs hw => ?_)
        refine lv_aload_n hx hb dL_holds_166 rfl (lv_at hl 5 rfl) ?_
        refine lv_iconst (v := 3) hx hb dL_holds_167 (by decide) ?_
        refine lv_dup2_11 hx hb dL_holds_168 rfl rfl ?_
        obtain ⟨hg, hf⟩ := gdE hf
        obtain ⟨v13, hv13, hf⟩ := nmE hf
        refine q_iald hx hb hw ((xws cI cR ad O K).length + 0) (wg.trans rfl) (inb_in hg) dL_holds_169 ?_
        refine q_is hv13 ?_
        refine lv_aload_n hx hb dL_holds_170 rfl (lv_at hl 3 rfl) ?_
        refine lv_iload hx hb dL_holds_171 (lv_at hl 10 rfl) ?_
        refine lv_bipush (v := 6) hx hb dL_holds_173 (by decide) ?_
        obtain ⟨r14, hr14, hf⟩ := bndS hf
        refine q_callVr (r := sxw cI sa S12) (rest := [.int v13, .int 3, .ref sa]) (st1 := [.int r14, .int v13, .int 3, .ref sa]) [.int x7, .int 6] ⟨hx, hb, hml, hown, hts⟩ (c_X5_guest hr14) (cwV 2 hts gL_holds_X5_guest rfl rfl rfl (by decide +kernel) ⟨Nat.le_of_ble_eq_true rfl, Nat.le_of_ble_eq_true rfl⟩) hw xa_0 rfl rfl hl.1 rfl (Nat.le_of_ble_eq_true rfl) dL_holds_175 ⟨Nat.le_of_ble_eq_true rfl, Nat.le_of_ble_eq_true rfl⟩ rfl (fun H locs hw => ?_)
        refine lv_if_le (tgt := 185) hx hb dL_holds_178 (by decide) (fun hc => ?_) (fun hc => ?_)
        · have hf := iteT hf hc
          refine lv_iconst (v := 0) hx hb dL_holds_185 (by decide) ?_
          exact B186 sa S12 x1 x3 x4 x5 x6 x7 r1 r2 r3 0 v13 3 H locs ls hf hw (lv_sub hl [3, 4, 5, 6, 7, 8, 9, 10, 2, 1, 0] rfl)
        · have hf := iteF hf hc
          refine lv_iconst (v := 1) hx hb dL_holds_181 (by decide) ?_
          refine lv_goto (tgt := 186) hx hb dL_holds_182 (by decide) ?_
          exact B186 sa S12 x1 x3 x4 x5 x6 x7 r1 r2 r3 1 v13 3 H locs ls hf hw (lv_sub hl [3, 4, 5, 6, 7, 8, 9, 10, 2, 1, 0] rfl)
  have B87 : ∀ (sa : Nat) (S : (Nat → Int32)) (x1 : Int32) (x3 : Int32) (x4 : Int32) (x5 : Int32) (y0 : Int32) (H : Heap) (locs : List Loc) (ls : Array Slot), f_L_holds_b87 O K S x1 x3 x4 x5 y0 = some r → WH D cI cR A (xws cI cR ad O K ++ sxw cI sa S) s H locs → lv_has ls 11 [(0, .ref (ad 0)), (1, .int x1), (2, .ref sa), (3, .int x3), (4, .int x4), (5, .int x5)] → W p l e (headSpec wsL_holds ({ frames := 6, cells := 1, slots := 6, locals := 130 })).room s m ([.ref (ad 0)] : List Value).toArray below meth c H locs 1 6 (MQ below (QV (some (.int r)) D A (xws cI cR ad O K)) (([.ref (ad 0)] : List Value)).toArray s 1 6 A) (F0 m 87 ls [.int y0]) := by
    intro sa S x1 x3 x4 x5 y0 H locs ls hf hw hl
    unfold f_L_holds_b87 at hf
    refine lv_istore (lv' := [(6, .int y0), (0, .ref (ad 0)), (1, .int x1), (2, .ref sa), (3, .int x3), (4, .int x4), (5, .int x5)]) hx hb dL_holds_87 hl (by decide) rfl (fun ls hl => ?_)
    refine lv_iconst (v := 0) hx hb dL_holds_89 (by decide) ?_
    refine lv_istore (lv' := [(7, .int 0), (6, .int y0), (0, .ref (ad 0)), (1, .int x1), (2, .ref sa), (3, .int x3), (4, .int x4), (5, .int x5)]) hx hb dL_holds_90 hl (by decide) rfl (fun ls hl => ?_)
    exact L92 fuelN sa S x1 x3 x4 x5 y0 0 H locs ls hf hw (lv_sub hl [2, 3, 4, 5, 6, 7, 1, 0] rfl)
  have B86 : ∀ (sa : Nat) (S : (Nat → Int32)) (x1 : Int32) (x3 : Int32) (x4 : Int32) (x5 : Int32) (H : Heap) (locs : List Loc) (ls : Array Slot), f_L_holds_b86 O K S x1 x3 x4 x5 = some r → WH D cI cR A (xws cI cR ad O K ++ sxw cI sa S) s H locs → lv_has ls 11 [(0, .ref (ad 0)), (1, .int x1), (2, .ref sa), (3, .int x3), (4, .int x4), (5, .int x5)] → W p l e (headSpec wsL_holds ({ frames := 6, cells := 1, slots := 6, locals := 130 })).room s m ([.ref (ad 0)] : List Value).toArray below meth c H locs 1 6 (MQ below (QV (some (.int r)) D A (xws cI cR ad O K)) (([.ref (ad 0)] : List Value)).toArray s 1 6 A) (F0 m 86 ls []) := by
    intro sa S x1 x3 x4 x5 H locs ls hf hw hl
    unfold f_L_holds_b86 at hf
    refine lv_iconst (v := 0) hx hb dL_holds_86 (by decide) ?_
    exact B87 sa S x1 x3 x4 x5 0 H locs ls hf hw (lv_sub hl [0, 1, 2, 3, 4, 5] rfl)
  refine lv_aload_n hx hb dL_holds_0 rfl (lv_at hl 0 rfl) ?_
  refine lv_iconst (v := 1) hx hb dL_holds_1 (by decide) ?_
  obtain ⟨r1, hr1, hf⟩ := bndS hf
  refine q_callV (rest := []) (st1 := [.int r1]) [.int 1] ⟨hx, hb, hml, hown, hts⟩ (c_X5_count hr1) (cwV 1 hts gL_holds_X5_count rfl rfl rfl (by decide +kernel) ⟨Nat.le_of_ble_eq_true rfl, Nat.le_of_ble_eq_true rfl⟩) hw xa_0 rfl rfl hl.1 rfl (Nat.le_of_ble_eq_true rfl) dL_holds_2 ⟨Nat.le_of_ble_eq_true rfl, Nat.le_of_ble_eq_true rfl⟩ rfl (fun H locs hw => ?_)
  refine lv_istore_n (lv' := [(1, .int r1), (0, .ref (ad 0))]) hx hb dL_holds_5 rfl hl (by decide) rfl (fun ls hl => ?_)
  refine lv_bipush (v := 6) hx hb dL_holds_6 (by decide) ?_
  refine i_newa (w0 := xws cI cR ad O K) (lw := []) (N' := 6) hx hb (hts (.arrayClass .int) (by decide +kernel)) (hw.to (List.append_nil _).symm) hA (by decide) (by decide) (by decide) (Nat.le_of_ble_eq_true rfl) (Nat.le_of_ble_eq_true rfl) dL_holds_8 (fun sa H hw => ?_)
  obtain ⟨S2, hS2, hf⟩ := nmE hf
  have hw : WH D cI cR A (xws cI cR ad O K ++ sxw cI sa S2) s H locs := by rw [hS2]; exact hw
  refine lv_astore_n (lv' := [(2, .ref sa), (1, .int r1), (0, .ref (ad 0))]) hx hb dL_holds_10 rfl hl (by decide) rfl (fun ls hl => ?_)
  refine lv_iconst (v := 0) hx hb dL_holds_11 (by decide) ?_
  refine lv_istore_n (lv' := [(3, .int 0), (2, .ref sa), (1, .int r1), (0, .ref (ad 0))]) hx hb dL_holds_12 rfl hl (by decide) rfl (fun ls hl => ?_)
  refine lv_iconst (v := 0) hx hb dL_holds_13 (by decide) ?_
  refine lv_istore (lv' := [(4, .int 0), (3, .int 0), (2, .ref sa), (1, .int r1), (0, .ref (ad 0))]) hx hb dL_holds_14 hl (by decide) rfl (fun ls hl => ?_)
  refine lv_iconst (v := 0) hx hb dL_holds_16 (by decide) ?_
  refine lv_istore (lv' := [(5, .int 0), (4, .int 0), (3, .int 0), (2, .ref sa), (1, .int r1), (0, .ref (ad 0))]) hx hb dL_holds_17 hl (by decide) rfl (fun ls hl => ?_)
  refine lv_iload_n hx hb dL_holds_19 rfl (lv_at hl 4 rfl) ?_
  refine lv_bipush (v := 10) hx hb dL_holds_20 (by decide) ?_
  refine lv_icmp_gt (tgt := 86) hx hb dL_holds_22 (by decide) (fun hc => ?_) (fun hc => ?_)
  · have hf := iteT hf hc
    exact B86 sa S2 r1 0 0 0 H locs ls hf hw (lv_sub hl [5, 4, 3, 2, 1, 0] rfl)
  · have hf := iteF hf hc
    refine lv_aload_n hx hb dL_holds_25 rfl (lv_at hl 5 rfl) ?_
    refine lv_bipush (v := 7) hx hb dL_holds_26 (by decide) ?_
    obtain ⟨r3, hr3, hf⟩ := bndS hf
    refine q_callVr (r := sxw cI sa S2) (rest := []) (st1 := [.int r3]) [.int 7] ⟨hx, hb, hml, hown, hts⟩ (c_X5_count hr3) (cwV 1 hts gL_holds_X5_count rfl rfl rfl (by decide +kernel) ⟨Nat.le_of_ble_eq_true rfl, Nat.le_of_ble_eq_true rfl⟩) hw xa_0 rfl rfl hl.1 rfl (Nat.le_of_ble_eq_true rfl) dL_holds_28 ⟨Nat.le_of_ble_eq_true rfl, Nat.le_of_ble_eq_true rfl⟩ rfl (fun H locs hw => ?_)
    refine lv_aload_n hx hb dL_holds_31 rfl (lv_at hl 5 rfl) ?_
    refine lv_iconst (v := 4) hx hb dL_holds_32 (by decide) ?_
    obtain ⟨r4, hr4, hf⟩ := bndS hf
    refine q_callVr (r := sxw cI sa S2) (rest := [.int r3]) (st1 := [.int r4, .int r3]) [.int 4] ⟨hx, hb, hml, hown, hts⟩ (c_X5_count hr4) (cwV 1 hts gL_holds_X5_count rfl rfl rfl (by decide +kernel) ⟨Nat.le_of_ble_eq_true rfl, Nat.le_of_ble_eq_true rfl⟩) hw xa_0 rfl rfl hl.1 rfl (Nat.le_of_ble_eq_true rfl) dL_holds_33 ⟨Nat.le_of_ble_eq_true rfl, Nat.le_of_ble_eq_true rfl⟩ rfl (fun H locs hw => ?_)
    refine lv_aload_n hx hb dL_holds_36 rfl (lv_at hl 5 rfl) ?_
    refine lv_iconst (v := 5) hx hb dL_holds_37 (by decide) ?_
    obtain ⟨r5, hr5, hf⟩ := bndS hf
    refine q_callVr (r := sxw cI sa S2) (rest := [.int r4, .int r3]) (st1 := [.int r5, .int r4, .int r3]) [.int 5] ⟨hx, hb, hml, hown, hts⟩ (c_X5_count hr5) (cwV 1 hts gL_holds_X5_count rfl rfl rfl (by decide +kernel) ⟨Nat.le_of_ble_eq_true rfl, Nat.le_of_ble_eq_true rfl⟩) hw xa_0 rfl rfl hl.1 rfl (Nat.le_of_ble_eq_true rfl) dL_holds_38 ⟨Nat.le_of_ble_eq_true rfl, Nat.le_of_ble_eq_true rfl⟩ rfl (fun H locs hw => ?_)
    refine lv_iadd hx hb dL_holds_41 ?_
    refine lv_icmp_ne (tgt := 86) hx hb dL_holds_42 (by decide) (fun hc => ?_) (fun hc => ?_)
    · have hf := iteF hf hc
      exact B86 sa S2 r1 0 0 0 H locs ls hf hw (lv_sub hl [5, 4, 3, 2, 1, 0] rfl)
    · have hf := iteT hf hc
      refine lv_aload_n hx hb dL_holds_45 rfl (lv_at hl 5 rfl) ?_
      refine lv_bipush (v := 10) hx hb dL_holds_46 (by decide) ?_
      obtain ⟨r6, hr6, hf⟩ := bndS hf
      refine q_callVr (r := sxw cI sa S2) (rest := []) (st1 := [.int r6]) [.int 10] ⟨hx, hb, hml, hown, hts⟩ (c_X5_count hr6) (cwV 1 hts gL_holds_X5_count rfl rfl rfl (by decide +kernel) ⟨Nat.le_of_ble_eq_true rfl, Nat.le_of_ble_eq_true rfl⟩) hw xa_0 rfl rfl hl.1 rfl (Nat.le_of_ble_eq_true rfl) dL_holds_48 ⟨Nat.le_of_ble_eq_true rfl, Nat.le_of_ble_eq_true rfl⟩ rfl (fun H locs hw => ?_)
      refine lv_aload_n hx hb dL_holds_51 rfl (lv_at hl 5 rfl) ?_
      refine lv_bipush (v := 8) hx hb dL_holds_52 (by decide) ?_
      obtain ⟨r7, hr7, hf⟩ := bndS hf
      refine q_callVr (r := sxw cI sa S2) (rest := [.int r6]) (st1 := [.int r7, .int r6]) [.int 8] ⟨hx, hb, hml, hown, hts⟩ (c_X5_count hr7) (cwV 1 hts gL_holds_X5_count rfl rfl rfl (by decide +kernel) ⟨Nat.le_of_ble_eq_true rfl, Nat.le_of_ble_eq_true rfl⟩) hw xa_0 rfl rfl hl.1 rfl (Nat.le_of_ble_eq_true rfl) dL_holds_54 ⟨Nat.le_of_ble_eq_true rfl, Nat.le_of_ble_eq_true rfl⟩ rfl (fun H locs hw => ?_)
      refine lv_aload_n hx hb dL_holds_57 rfl (lv_at hl 5 rfl) ?_
      refine lv_bipush (v := 9) hx hb dL_holds_58 (by decide) ?_
      obtain ⟨r8, hr8, hf⟩ := bndS hf
      refine q_callVr (r := sxw cI sa S2) (rest := [.int r7, .int r6]) (st1 := [.int r8, .int r7, .int r6]) [.int 9] ⟨hx, hb, hml, hown, hts⟩ (c_X5_count hr8) (cwV 1 hts gL_holds_X5_count rfl rfl rfl (by decide +kernel) ⟨Nat.le_of_ble_eq_true rfl, Nat.le_of_ble_eq_true rfl⟩) hw xa_0 rfl rfl hl.1 rfl (Nat.le_of_ble_eq_true rfl) dL_holds_60 ⟨Nat.le_of_ble_eq_true rfl, Nat.le_of_ble_eq_true rfl⟩ rfl (fun H locs hw => ?_)
      refine lv_iadd hx hb dL_holds_63 ?_
      refine lv_icmp_ne (tgt := 86) hx hb dL_holds_64 (by decide) (fun hc => ?_) (fun hc => ?_)
      · have hf := iteF hf hc
        exact B86 sa S2 r1 0 0 0 H locs ls hf hw (lv_sub hl [5, 4, 3, 2, 1, 0] rfl)
      · have hf := iteT hf hc
        refine lv_aload_n hx hb dL_holds_67 rfl (lv_at hl 5 rfl) ?_
        refine lv_bipush (v := 9) hx hb dL_holds_68 (by decide) ?_
        obtain ⟨r9, hr9, hf⟩ := bndS hf
        refine q_callVr (r := sxw cI sa S2) (rest := []) (st1 := [.int r9]) [.int 9] ⟨hx, hb, hml, hown, hts⟩ (c_X5_count hr9) (cwV 1 hts gL_holds_X5_count rfl rfl rfl (by decide +kernel) ⟨Nat.le_of_ble_eq_true rfl, Nat.le_of_ble_eq_true rfl⟩) hw xa_0 rfl rfl hl.1 rfl (Nat.le_of_ble_eq_true rfl) dL_holds_70 ⟨Nat.le_of_ble_eq_true rfl, Nat.le_of_ble_eq_true rfl⟩ rfl (fun H locs hw => ?_)
        refine lv_aload_n hx hb dL_holds_73 rfl (lv_at hl 5 rfl) ?_
        refine lv_bipush (v := 12) hx hb dL_holds_74 (by decide) ?_
        obtain ⟨r10, hr10, hf⟩ := bndS hf
        refine q_callVr (r := sxw cI sa S2) (rest := [.int r9]) (st1 := [.int r10, .int r9]) [.int 12] ⟨hx, hb, hml, hown, hts⟩ (c_X5_count hr10) (cwV 1 hts gL_holds_X5_count rfl rfl rfl (by decide +kernel) ⟨Nat.le_of_ble_eq_true rfl, Nat.le_of_ble_eq_true rfl⟩) hw xa_0 rfl rfl hl.1 rfl (Nat.le_of_ble_eq_true rfl) dL_holds_76 ⟨Nat.le_of_ble_eq_true rfl, Nat.le_of_ble_eq_true rfl⟩ rfl (fun H locs hw => ?_)
        refine lv_icmp_ne (tgt := 86) hx hb dL_holds_79 (by decide) (fun hc => ?_) (fun hc => ?_)
        · have hf := iteF hf hc
          exact B86 sa S2 r1 0 0 0 H locs ls hf hw (lv_sub hl [5, 4, 3, 2, 1, 0] rfl)
        · have hf := iteT hf hc
          refine lv_iconst (v := 1) hx hb dL_holds_82 (by decide) ?_
          refine lv_goto (tgt := 87) hx hb dL_holds_83 (by decide) ?_
          exact B87 sa S2 r1 0 0 0 1 H locs ls hf hw (lv_sub hl [5, 4, 3, 2, 1, 0] rfl)
