abbrev RK : Type := Nat → Nat → Int32
abbrev XO : Type := Nat → Nat → Nat → Int32
abbrev MS : Type := (Nat → Nat → Int32) × Int64
def upO (O : XO) (r : Nat) (f : Nat → Int32) : XO := fun b => if b = 8 then upR (O 8) r f else O b
def upOS (O : XO) (r i : Nat) (v : Int32) : XO := upO O r (upd (O 8 r) i v)
def upM (M : MS) (r : Nat) (f : Nat → Int32) : MS := (upR M.1 r f, M.2)
def upMS (M : MS) (r i : Nat) (v : Int32) : MS := upM M r (upd (M.1 r) i v)
def upH (M : MS) (h : Int64) : MS := (M.1, h)
def imin (x y : Int32) : Int32 := if y < x then y else x
def imax (x y : Int32) : Int32 := if x < y then y else x
def at_ (n : Nat) (f : Nat → Int32) (i : Int32) : Int32 := if i < 0 then 0 else if Int32.ofNat n ≤ i then 0 else f i.toNatClampNeg
def put_ (n : Nat) (f : Nat → Int32) (i x : Int32) : Nat → Int32 := if i < 0 then f else if Int32.ofNat n ≤ i then f else upd f i.toNatClampNeg x
def fuelN : Nat := 1000
def n64b (r : UInt64) : Bool := decide (r &&& 0x7fffffffffffffff ≤ 0x7ff0000000000000)
theorem n64b_ok {r : UInt64} (h : n64b r = true) : vf_n64 r := of_decide_eq_true (p := r &&& 0x7fffffffffffffff ≤ 0x7ff0000000000000) h
theorem ne_toInt {x y : Int32} (h : ¬ x = y) {k : Int} (hy : y.toInt = k) : ¬ x.toInt = k := fun e => h (Int32.toInt_inj.mp (e.trans hy.symm))
theorem ne_toInt' {x y : Int32} (h : ¬ x = y) {k : Int} (hy : y.toInt = k) : ¬ k = x.toInt := fun e => ne_toInt h hy e.symm
def zb (v : Int32) : Bool := v == 0 || v == 1
theorem zb_ok {v : Int32} (h : zb v = true) : narrow .boolean (.int v) = .int v := by
  simp only [zb, Bool.or_eq_true, beq_iff_eq] at h
  rcases h with rfl | rfl
  · exact nb_0
  · exact nb_1
/-- a carnival's cells from the place o on: its object, its guests, eight rows, its lines, two rows, the settings -/
def kws (cI : ClassId) (ad : Nat → Nat) (o : Nat) (K : RK) : va_W := [
  (ad o, .inr (0, [.ref (ad (o + 1)), .ref (ad (o + 10)), .ref (ad (o + 13)), .int (K 11 0), .int (K 11 1), .int (K 11 2), .int (K 11 3), .int (K 11 4), .int (K 11 5), .int (K 11 6), .int (K 11 7), .int (K 11 8)])),
  (ad (o + 1), .inr (1, [.ref (ad (o + 2)), .ref (ad (o + 3)), .ref (ad (o + 4)), .ref (ad (o + 5)), .ref (ad (o + 6)), .ref (ad (o + 7)), .ref (ad (o + 8)), .ref (ad (o + 9)), .int (K 12 0)])),
  (ad (o + 2), .inl (cI, 10, .inl (K 0))), (ad (o + 3), .inl (cI, 10, .inl (K 1))), (ad (o + 4), .inl (cI, 10, .inl (K 2))), (ad (o + 5), .inl (cI, 10, .inl (K 3))), (ad (o + 6), .inl (cI, 10, .inl (K 4))), (ad (o + 7), .inl (cI, 10, .inl (K 5))), (ad (o + 8), .inl (cI, 10, .inl (K 6))), (ad (o + 9), .inl (cI, 10, .inl (K 7))),
  (ad (o + 10), .inr (3, [.ref (ad (o + 11)), .ref (ad (o + 12))])),
  (ad (o + 11), .inl (cI, 30, .inl (K 8))), (ad (o + 12), .inl (cI, 3, .inl (K 9))), (ad (o + 13), .inl (cI, 6, .inl (K 10)))]
def ringf (ad : Nat → Nat) : Nat → Option Nat := fun j => some (ad (31 + 14 * j))
/-- all that the class' object holds: the carnival that is now, the snapshot's, the history's six, the text -/
def xws (cI cR : ClassId) (ad : Nat → Nat) (O : XO) (K : RK) : va_W :=
  (ad 0, .inr (5, [.ref (ad 1), .ref (ad 15), .ref (ad 29), .ref (ad 115), .int (O 8 0 0)])) :: (kws cI ad 1 K ++ (kws cI ad 15 (O 1) ++ ([(ad 29, .inr (2, [.ref (ad 30), .int (O 8 0 1), .int (O 8 0 2)])), (ad 30, .inl (cR, 6, .inr (.inr (.inr (.inr (ringf ad))))))] ++ (kws cI ad 31 (O 2) ++ (kws cI ad 45 (O 3) ++ (kws cI ad 59 (O 4) ++ (kws cI ad 73 (O 5) ++ (kws cI ad 87 (O 6) ++ (kws cI ad 101 (O 7) ++ [(ad 115, .inr (4, [.ref (ad 116), .int (O 8 0 3)])), (ad 116, .inl (cI, 60, .inl (O 8 1)))])))))))))
def mws (cI : ClassId) (ad : Nat → Nat) (M : MS) : va_W := [
  (ad 0, .inr (6, [.int (M.1 3 0), .ref (ad 1), .int (M.1 3 1), .int (M.1 3 2), .ref (ad 2), .int (M.1 3 3), .int (M.1 3 4), .int (M.1 3 5), .int (M.1 3 6), .int (M.1 3 7), .ref (ad 3), .long M.2])),
  (ad 1, .inl (cI, 952, .inl (M.1 0))), (ad 2, .inl (cI, 60, .inl (M.1 1))), (ad 3, .inl (cI, 5, .inl (M.1 2)))]
set_option maxRecDepth 20000 in
theorem xa_0 {cI cR : ClassId} {ad : Nat → Nat} {O : XO} {K : RK} : (xws cI cR ad O K)[0]? = some (ad 0, .inr (5, [.ref (ad 1), .ref (ad 15), .ref (ad 29), .ref (ad 115), .int (O 8 0 0)])) := rfl
set_option maxRecDepth 20000 in
theorem xa_1 {cI cR : ClassId} {ad : Nat → Nat} {O : XO} {K : RK} : (xws cI cR ad O K)[1]? = some (ad 1, .inr (0, [.ref (ad 2), .ref (ad 11), .ref (ad 14), .int (K 11 0), .int (K 11 1), .int (K 11 2), .int (K 11 3), .int (K 11 4), .int (K 11 5), .int (K 11 6), .int (K 11 7), .int (K 11 8)])) := rfl
set_option maxRecDepth 20000 in
theorem xa_2 {cI cR : ClassId} {ad : Nat → Nat} {O : XO} {K : RK} : (xws cI cR ad O K)[2]? = some (ad 2, .inr (1, [.ref (ad 3), .ref (ad 4), .ref (ad 5), .ref (ad 6), .ref (ad 7), .ref (ad 8), .ref (ad 9), .ref (ad 10), .int (K 12 0)])) := rfl
set_option maxRecDepth 20000 in
theorem xa_11 {cI cR : ClassId} {ad : Nat → Nat} {O : XO} {K : RK} : (xws cI cR ad O K)[11]? = some (ad 11, .inr (3, [.ref (ad 12), .ref (ad 13)])) := rfl
set_option maxRecDepth 20000 in
theorem xa_29 {cI cR : ClassId} {ad : Nat → Nat} {O : XO} {K : RK} : (xws cI cR ad O K)[29]? = some (ad 29, .inr (2, [.ref (ad 30), .int (O 8 0 1), .int (O 8 0 2)])) := rfl
set_option maxRecDepth 20000 in
theorem xa_115 {cI cR : ClassId} {ad : Nat → Nat} {O : XO} {K : RK} : (xws cI cR ad O K)[115]? = some (ad 115, .inr (4, [.ref (ad 116), .int (O 8 0 3)])) := rfl
set_option maxRecDepth 20000 in
theorem xa_30 {cI cR : ClassId} {ad : Nat → Nat} {O : XO} {K : RK} : (xws cI cR ad O K)[30]? = some (ad 30, .inl (cR, 6, .inr (.inr (.inr (.inr (ringf ad)))))) := rfl
set_option maxRecDepth 20000 in
theorem xa_3 {cI cR : ClassId} {ad : Nat → Nat} {O : XO} {K : RK} : (xws cI cR ad O K)[3]? = some (ad 3, .inl (cI, 10, .inl (K 0))) := rfl
set_option maxRecDepth 20000 in
theorem xa_4 {cI cR : ClassId} {ad : Nat → Nat} {O : XO} {K : RK} : (xws cI cR ad O K)[4]? = some (ad 4, .inl (cI, 10, .inl (K 1))) := rfl
set_option maxRecDepth 20000 in
theorem xa_5 {cI cR : ClassId} {ad : Nat → Nat} {O : XO} {K : RK} : (xws cI cR ad O K)[5]? = some (ad 5, .inl (cI, 10, .inl (K 2))) := rfl
set_option maxRecDepth 20000 in
theorem xa_6 {cI cR : ClassId} {ad : Nat → Nat} {O : XO} {K : RK} : (xws cI cR ad O K)[6]? = some (ad 6, .inl (cI, 10, .inl (K 3))) := rfl
set_option maxRecDepth 20000 in
theorem xa_7 {cI cR : ClassId} {ad : Nat → Nat} {O : XO} {K : RK} : (xws cI cR ad O K)[7]? = some (ad 7, .inl (cI, 10, .inl (K 4))) := rfl
set_option maxRecDepth 20000 in
theorem xa_8 {cI cR : ClassId} {ad : Nat → Nat} {O : XO} {K : RK} : (xws cI cR ad O K)[8]? = some (ad 8, .inl (cI, 10, .inl (K 5))) := rfl
set_option maxRecDepth 20000 in
theorem xa_9 {cI cR : ClassId} {ad : Nat → Nat} {O : XO} {K : RK} : (xws cI cR ad O K)[9]? = some (ad 9, .inl (cI, 10, .inl (K 6))) := rfl
set_option maxRecDepth 20000 in
theorem xa_10 {cI cR : ClassId} {ad : Nat → Nat} {O : XO} {K : RK} : (xws cI cR ad O K)[10]? = some (ad 10, .inl (cI, 10, .inl (K 7))) := rfl
set_option maxRecDepth 20000 in
theorem xa_12 {cI cR : ClassId} {ad : Nat → Nat} {O : XO} {K : RK} : (xws cI cR ad O K)[12]? = some (ad 12, .inl (cI, 30, .inl (K 8))) := rfl
set_option maxRecDepth 20000 in
theorem xa_13 {cI cR : ClassId} {ad : Nat → Nat} {O : XO} {K : RK} : (xws cI cR ad O K)[13]? = some (ad 13, .inl (cI, 3, .inl (K 9))) := rfl
set_option maxRecDepth 20000 in
theorem xa_14 {cI cR : ClassId} {ad : Nat → Nat} {O : XO} {K : RK} : (xws cI cR ad O K)[14]? = some (ad 14, .inl (cI, 6, .inl (K 10))) := rfl
set_option maxRecDepth 20000 in
theorem xa_116 {cI cR : ClassId} {ad : Nat → Nat} {O : XO} {K : RK} : (xws cI cR ad O K)[116]? = some (ad 116, .inl (cI, 60, .inl (O 8 1))) := rfl
set_option maxRecDepth 20000 in
theorem xs_3 {cI cR : ClassId} {ad : Nat → Nat} {O : XO} {K : RK} {f : Nat → Int32} : (xws cI cR ad O K).set 3 (ad 3, .inl (cI, 10, .inl f)) = xws cI cR ad O (upR K 0 f) := rfl
set_option maxRecDepth 20000 in
theorem xs_4 {cI cR : ClassId} {ad : Nat → Nat} {O : XO} {K : RK} {f : Nat → Int32} : (xws cI cR ad O K).set 4 (ad 4, .inl (cI, 10, .inl f)) = xws cI cR ad O (upR K 1 f) := rfl
set_option maxRecDepth 20000 in
theorem xs_5 {cI cR : ClassId} {ad : Nat → Nat} {O : XO} {K : RK} {f : Nat → Int32} : (xws cI cR ad O K).set 5 (ad 5, .inl (cI, 10, .inl f)) = xws cI cR ad O (upR K 2 f) := rfl
set_option maxRecDepth 20000 in
theorem xs_6 {cI cR : ClassId} {ad : Nat → Nat} {O : XO} {K : RK} {f : Nat → Int32} : (xws cI cR ad O K).set 6 (ad 6, .inl (cI, 10, .inl f)) = xws cI cR ad O (upR K 3 f) := rfl
set_option maxRecDepth 20000 in
theorem xs_7 {cI cR : ClassId} {ad : Nat → Nat} {O : XO} {K : RK} {f : Nat → Int32} : (xws cI cR ad O K).set 7 (ad 7, .inl (cI, 10, .inl f)) = xws cI cR ad O (upR K 4 f) := rfl
set_option maxRecDepth 20000 in
theorem xs_8 {cI cR : ClassId} {ad : Nat → Nat} {O : XO} {K : RK} {f : Nat → Int32} : (xws cI cR ad O K).set 8 (ad 8, .inl (cI, 10, .inl f)) = xws cI cR ad O (upR K 5 f) := rfl
set_option maxRecDepth 20000 in
theorem xs_9 {cI cR : ClassId} {ad : Nat → Nat} {O : XO} {K : RK} {f : Nat → Int32} : (xws cI cR ad O K).set 9 (ad 9, .inl (cI, 10, .inl f)) = xws cI cR ad O (upR K 6 f) := rfl
set_option maxRecDepth 20000 in
theorem xs_10 {cI cR : ClassId} {ad : Nat → Nat} {O : XO} {K : RK} {f : Nat → Int32} : (xws cI cR ad O K).set 10 (ad 10, .inl (cI, 10, .inl f)) = xws cI cR ad O (upR K 7 f) := rfl
set_option maxRecDepth 20000 in
theorem xs_12 {cI cR : ClassId} {ad : Nat → Nat} {O : XO} {K : RK} {f : Nat → Int32} : (xws cI cR ad O K).set 12 (ad 12, .inl (cI, 30, .inl f)) = xws cI cR ad O (upR K 8 f) := rfl
set_option maxRecDepth 20000 in
theorem xs_13 {cI cR : ClassId} {ad : Nat → Nat} {O : XO} {K : RK} {f : Nat → Int32} : (xws cI cR ad O K).set 13 (ad 13, .inl (cI, 3, .inl f)) = xws cI cR ad O (upR K 9 f) := rfl
set_option maxRecDepth 20000 in
theorem xs_14 {cI cR : ClassId} {ad : Nat → Nat} {O : XO} {K : RK} {f : Nat → Int32} : (xws cI cR ad O K).set 14 (ad 14, .inl (cI, 6, .inl f)) = xws cI cR ad O (upR K 10 f) := rfl
set_option maxRecDepth 20000 in
theorem xs_116 {cI cR : ClassId} {ad : Nat → Nat} {O : XO} {K : RK} {f : Nat → Int32} : (xws cI cR ad O K).set 116 (ad 116, .inl (cI, 60, .inl f)) = xws cI cR ad (upO O 1 f) K := rfl
set_option maxRecDepth 20000 in
theorem xs_1_3 {cI cR : ClassId} {ad : Nat → Nat} {O : XO} {K : RK} {v : Int32} : (xws cI cR ad O K).set 1 (ad 1, .inr (0, ([.ref (ad 2), .ref (ad 11), .ref (ad 14), .int (K 11 0), .int (K 11 1), .int (K 11 2), .int (K 11 3), .int (K 11 4), .int (K 11 5), .int (K 11 6), .int (K 11 7), .int (K 11 8)] : List Value).set 3 (.int v))) = xws cI cR ad O (upS K 11 0 v) := rfl
set_option maxRecDepth 20000 in
theorem xs_1_4 {cI cR : ClassId} {ad : Nat → Nat} {O : XO} {K : RK} {v : Int32} : (xws cI cR ad O K).set 1 (ad 1, .inr (0, ([.ref (ad 2), .ref (ad 11), .ref (ad 14), .int (K 11 0), .int (K 11 1), .int (K 11 2), .int (K 11 3), .int (K 11 4), .int (K 11 5), .int (K 11 6), .int (K 11 7), .int (K 11 8)] : List Value).set 4 (.int v))) = xws cI cR ad O (upS K 11 1 v) := rfl
set_option maxRecDepth 20000 in
theorem xs_1_5 {cI cR : ClassId} {ad : Nat → Nat} {O : XO} {K : RK} {v : Int32} : (xws cI cR ad O K).set 1 (ad 1, .inr (0, ([.ref (ad 2), .ref (ad 11), .ref (ad 14), .int (K 11 0), .int (K 11 1), .int (K 11 2), .int (K 11 3), .int (K 11 4), .int (K 11 5), .int (K 11 6), .int (K 11 7), .int (K 11 8)] : List Value).set 5 (.int v))) = xws cI cR ad O (upS K 11 2 v) := rfl
set_option maxRecDepth 20000 in
theorem xs_1_6 {cI cR : ClassId} {ad : Nat → Nat} {O : XO} {K : RK} {v : Int32} : (xws cI cR ad O K).set 1 (ad 1, .inr (0, ([.ref (ad 2), .ref (ad 11), .ref (ad 14), .int (K 11 0), .int (K 11 1), .int (K 11 2), .int (K 11 3), .int (K 11 4), .int (K 11 5), .int (K 11 6), .int (K 11 7), .int (K 11 8)] : List Value).set 6 (.int v))) = xws cI cR ad O (upS K 11 3 v) := rfl
set_option maxRecDepth 20000 in
theorem xs_1_7 {cI cR : ClassId} {ad : Nat → Nat} {O : XO} {K : RK} {v : Int32} : (xws cI cR ad O K).set 1 (ad 1, .inr (0, ([.ref (ad 2), .ref (ad 11), .ref (ad 14), .int (K 11 0), .int (K 11 1), .int (K 11 2), .int (K 11 3), .int (K 11 4), .int (K 11 5), .int (K 11 6), .int (K 11 7), .int (K 11 8)] : List Value).set 7 (.int v))) = xws cI cR ad O (upS K 11 4 v) := rfl
set_option maxRecDepth 20000 in
theorem xs_1_8 {cI cR : ClassId} {ad : Nat → Nat} {O : XO} {K : RK} {v : Int32} : (xws cI cR ad O K).set 1 (ad 1, .inr (0, ([.ref (ad 2), .ref (ad 11), .ref (ad 14), .int (K 11 0), .int (K 11 1), .int (K 11 2), .int (K 11 3), .int (K 11 4), .int (K 11 5), .int (K 11 6), .int (K 11 7), .int (K 11 8)] : List Value).set 8 (.int v))) = xws cI cR ad O (upS K 11 5 v) := rfl
set_option maxRecDepth 20000 in
theorem xs_1_9 {cI cR : ClassId} {ad : Nat → Nat} {O : XO} {K : RK} {v : Int32} : (xws cI cR ad O K).set 1 (ad 1, .inr (0, ([.ref (ad 2), .ref (ad 11), .ref (ad 14), .int (K 11 0), .int (K 11 1), .int (K 11 2), .int (K 11 3), .int (K 11 4), .int (K 11 5), .int (K 11 6), .int (K 11 7), .int (K 11 8)] : List Value).set 9 (.int v))) = xws cI cR ad O (upS K 11 6 v) := rfl
set_option maxRecDepth 20000 in
theorem xs_1_10 {cI cR : ClassId} {ad : Nat → Nat} {O : XO} {K : RK} {v : Int32} : (xws cI cR ad O K).set 1 (ad 1, .inr (0, ([.ref (ad 2), .ref (ad 11), .ref (ad 14), .int (K 11 0), .int (K 11 1), .int (K 11 2), .int (K 11 3), .int (K 11 4), .int (K 11 5), .int (K 11 6), .int (K 11 7), .int (K 11 8)] : List Value).set 10 (.int v))) = xws cI cR ad O (upS K 11 7 v) := rfl
set_option maxRecDepth 20000 in
theorem xs_1_11 {cI cR : ClassId} {ad : Nat → Nat} {O : XO} {K : RK} {v : Int32} : (xws cI cR ad O K).set 1 (ad 1, .inr (0, ([.ref (ad 2), .ref (ad 11), .ref (ad 14), .int (K 11 0), .int (K 11 1), .int (K 11 2), .int (K 11 3), .int (K 11 4), .int (K 11 5), .int (K 11 6), .int (K 11 7), .int (K 11 8)] : List Value).set 11 (.int v))) = xws cI cR ad O (upS K 11 8 v) := rfl
set_option maxRecDepth 20000 in
theorem xs_2_8 {cI cR : ClassId} {ad : Nat → Nat} {O : XO} {K : RK} {v : Int32} : (xws cI cR ad O K).set 2 (ad 2, .inr (1, ([.ref (ad 3), .ref (ad 4), .ref (ad 5), .ref (ad 6), .ref (ad 7), .ref (ad 8), .ref (ad 9), .ref (ad 10), .int (K 12 0)] : List Value).set 8 (.int v))) = xws cI cR ad O (upS K 12 0 v) := rfl
set_option maxRecDepth 20000 in
theorem xs_0_4 {cI cR : ClassId} {ad : Nat → Nat} {O : XO} {K : RK} {v : Int32} : (xws cI cR ad O K).set 0 (ad 0, .inr (5, ([.ref (ad 1), .ref (ad 15), .ref (ad 29), .ref (ad 115), .int (O 8 0 0)] : List Value).set 4 (.int v))) = xws cI cR ad (upOS O 0 0 v) K := rfl
set_option maxRecDepth 20000 in
theorem xs_29_1 {cI cR : ClassId} {ad : Nat → Nat} {O : XO} {K : RK} {v : Int32} : (xws cI cR ad O K).set 29 (ad 29, .inr (2, ([.ref (ad 30), .int (O 8 0 1), .int (O 8 0 2)] : List Value).set 1 (.int v))) = xws cI cR ad (upOS O 0 1 v) K := rfl
set_option maxRecDepth 20000 in
theorem xs_29_2 {cI cR : ClassId} {ad : Nat → Nat} {O : XO} {K : RK} {v : Int32} : (xws cI cR ad O K).set 29 (ad 29, .inr (2, ([.ref (ad 30), .int (O 8 0 1), .int (O 8 0 2)] : List Value).set 2 (.int v))) = xws cI cR ad (upOS O 0 2 v) K := rfl
set_option maxRecDepth 20000 in
theorem xs_115_1 {cI cR : ClassId} {ad : Nat → Nat} {O : XO} {K : RK} {v : Int32} : (xws cI cR ad O K).set 115 (ad 115, .inr (4, ([.ref (ad 116), .int (O 8 0 3)] : List Value).set 1 (.int v))) = xws cI cR ad (upOS O 0 3 v) K := rfl
theorem ma_0 {cI : ClassId} {ad : Nat → Nat} {M : MS} : (mws cI ad M)[0]? = some (ad 0, .inr (6, [.int (M.1 3 0), .ref (ad 1), .int (M.1 3 1), .int (M.1 3 2), .ref (ad 2), .int (M.1 3 3), .int (M.1 3 4), .int (M.1 3 5), .int (M.1 3 6), .int (M.1 3 7), .ref (ad 3), .long M.2])) := rfl
theorem ma_1 {cI : ClassId} {ad : Nat → Nat} {M : MS} : (mws cI ad M)[1]? = some (ad 1, .inl (cI, 952, .inl (M.1 0))) := rfl
theorem ms_1 {cI : ClassId} {ad : Nat → Nat} {M : MS} {f : Nat → Int32} : (mws cI ad M).set 1 (ad 1, .inl (cI, 952, .inl f)) = mws cI ad (upM M 0 f) := rfl
theorem ma_2 {cI : ClassId} {ad : Nat → Nat} {M : MS} : (mws cI ad M)[2]? = some (ad 2, .inl (cI, 60, .inl (M.1 1))) := rfl
theorem ms_2 {cI : ClassId} {ad : Nat → Nat} {M : MS} {f : Nat → Int32} : (mws cI ad M).set 2 (ad 2, .inl (cI, 60, .inl f)) = mws cI ad (upM M 1 f) := rfl
theorem ma_3 {cI : ClassId} {ad : Nat → Nat} {M : MS} : (mws cI ad M)[3]? = some (ad 3, .inl (cI, 5, .inl (M.1 2))) := rfl
theorem ms_3 {cI : ClassId} {ad : Nat → Nat} {M : MS} {f : Nat → Int32} : (mws cI ad M).set 3 (ad 3, .inl (cI, 5, .inl f)) = mws cI ad (upM M 2 f) := rfl
theorem ms_0_0 {cI : ClassId} {ad : Nat → Nat} {M : MS} {v : Int32} : (mws cI ad M).set 0 (ad 0, .inr (6, ([.int (M.1 3 0), .ref (ad 1), .int (M.1 3 1), .int (M.1 3 2), .ref (ad 2), .int (M.1 3 3), .int (M.1 3 4), .int (M.1 3 5), .int (M.1 3 6), .int (M.1 3 7), .ref (ad 3), .long M.2] : List Value).set 0 (.int v))) = mws cI ad (upMS M 3 0 v) := rfl
theorem ms_0_2 {cI : ClassId} {ad : Nat → Nat} {M : MS} {v : Int32} : (mws cI ad M).set 0 (ad 0, .inr (6, ([.int (M.1 3 0), .ref (ad 1), .int (M.1 3 1), .int (M.1 3 2), .ref (ad 2), .int (M.1 3 3), .int (M.1 3 4), .int (M.1 3 5), .int (M.1 3 6), .int (M.1 3 7), .ref (ad 3), .long M.2] : List Value).set 2 (.int v))) = mws cI ad (upMS M 3 1 v) := rfl
theorem ms_0_3 {cI : ClassId} {ad : Nat → Nat} {M : MS} {v : Int32} : (mws cI ad M).set 0 (ad 0, .inr (6, ([.int (M.1 3 0), .ref (ad 1), .int (M.1 3 1), .int (M.1 3 2), .ref (ad 2), .int (M.1 3 3), .int (M.1 3 4), .int (M.1 3 5), .int (M.1 3 6), .int (M.1 3 7), .ref (ad 3), .long M.2] : List Value).set 3 (.int v))) = mws cI ad (upMS M 3 2 v) := rfl
theorem ms_0_5 {cI : ClassId} {ad : Nat → Nat} {M : MS} {v : Int32} : (mws cI ad M).set 0 (ad 0, .inr (6, ([.int (M.1 3 0), .ref (ad 1), .int (M.1 3 1), .int (M.1 3 2), .ref (ad 2), .int (M.1 3 3), .int (M.1 3 4), .int (M.1 3 5), .int (M.1 3 6), .int (M.1 3 7), .ref (ad 3), .long M.2] : List Value).set 5 (.int v))) = mws cI ad (upMS M 3 3 v) := rfl
theorem ms_0_6 {cI : ClassId} {ad : Nat → Nat} {M : MS} {v : Int32} : (mws cI ad M).set 0 (ad 0, .inr (6, ([.int (M.1 3 0), .ref (ad 1), .int (M.1 3 1), .int (M.1 3 2), .ref (ad 2), .int (M.1 3 3), .int (M.1 3 4), .int (M.1 3 5), .int (M.1 3 6), .int (M.1 3 7), .ref (ad 3), .long M.2] : List Value).set 6 (.int v))) = mws cI ad (upMS M 3 4 v) := rfl
theorem ms_0_7 {cI : ClassId} {ad : Nat → Nat} {M : MS} {v : Int32} : (mws cI ad M).set 0 (ad 0, .inr (6, ([.int (M.1 3 0), .ref (ad 1), .int (M.1 3 1), .int (M.1 3 2), .ref (ad 2), .int (M.1 3 3), .int (M.1 3 4), .int (M.1 3 5), .int (M.1 3 6), .int (M.1 3 7), .ref (ad 3), .long M.2] : List Value).set 7 (.int v))) = mws cI ad (upMS M 3 5 v) := rfl
theorem ms_0_8 {cI : ClassId} {ad : Nat → Nat} {M : MS} {v : Int32} : (mws cI ad M).set 0 (ad 0, .inr (6, ([.int (M.1 3 0), .ref (ad 1), .int (M.1 3 1), .int (M.1 3 2), .ref (ad 2), .int (M.1 3 3), .int (M.1 3 4), .int (M.1 3 5), .int (M.1 3 6), .int (M.1 3 7), .ref (ad 3), .long M.2] : List Value).set 8 (.int v))) = mws cI ad (upMS M 3 6 v) := rfl
theorem ms_0_9 {cI : ClassId} {ad : Nat → Nat} {M : MS} {v : Int32} : (mws cI ad M).set 0 (ad 0, .inr (6, ([.int (M.1 3 0), .ref (ad 1), .int (M.1 3 1), .int (M.1 3 2), .ref (ad 2), .int (M.1 3 3), .int (M.1 3 4), .int (M.1 3 5), .int (M.1 3 6), .int (M.1 3 7), .ref (ad 3), .long M.2] : List Value).set 9 (.int v))) = mws cI ad (upMS M 3 7 v) := rfl
theorem ms_0_h {cI : ClassId} {ad : Nat → Nat} {M : MS} {v : Int64} : (mws cI ad M).set 0 (ad 0, .inr (6, ([.int (M.1 3 0), .ref (ad 1), .int (M.1 3 1), .int (M.1 3 2), .ref (ad 2), .int (M.1 3 3), .int (M.1 3 4), .int (M.1 3 5), .int (M.1 3 6), .int (M.1 3 7), .ref (ad 3), .long M.2] : List Value).set 11 (.long v))) = mws cI ad (upH M v) := rfl
set_option maxRecDepth 20000 in
theorem xa_row {cI cR : ClassId} {ad : Nat → Nat} {O : XO} {K : RK} {rw : Nat} (h : rw < 8) : (xws cI cR ad O K)[3 + rw]? = some (ad (3 + rw), .inl (cI, 10, .inl (K rw))) := by
  rcases (show rw = 0 ∨ rw = 1 ∨ rw = 2 ∨ rw = 3 ∨ rw = 4 ∨ rw = 5 ∨ rw = 6 ∨ rw = 7 by omega) with rfl | rfl | rfl | rfl | rfl | rfl | rfl | rfl <;> rfl
set_option maxRecDepth 20000 in
theorem xs_row {cI cR : ClassId} {ad : Nat → Nat} {O : XO} {K : RK} {rw : Nat} {f : Nat → Int32} (h : rw < 8) : (xws cI cR ad O K).set (3 + rw) (ad (3 + rw), .inl (cI, 10, .inl f)) = xws cI cR ad O (upR K rw f) := by
  rcases (show rw = 0 ∨ rw = 1 ∨ rw = 2 ∨ rw = 3 ∨ rw = 4 ∨ rw = 5 ∨ rw = 6 ∨ rw = 7 by omega) with rfl | rfl | rfl | rfl | rfl | rfl | rfl | rfl <;> rfl
theorem at_in {i : Int32} {n : Nat} (hn : n < 2 ^ 31) (h1 : ¬ i < 0) (h2 : ¬ Int32.ofNat n ≤ i) : vp_in i n := by
  rw [vp_in_iff]
  rw [Int32.lt_iff_toInt_lt] at h1
  rw [Int32.le_iff_toInt_le, show (Int32.ofNat n).toInt = (n : Int) from nI_toInt hn] at h2
  have h0 : (0 : Int32).toInt = 0 := by decide
  omega
set_option maxHeartbeats 4000000 in
set_option maxRecDepth 100000 in
theorem c_X5_at {l : Launch} {D : va_G} {cI cR : ClassId} {A : Nat → Prop} {w : va_W} {a n q0 : Nat} {f : Nat → Int32} {i r : Int32} (he : w[q0]? = some (a, .inl (cI, n, .inl f))) (er : r = at_ n f i) (hn : n < 2 ^ 31 := by decide) : MC l yX5_at wsX5_at 0 0 D cI cR A [.ref a, .int i] w (some (.int r)) w := by
  refine Met.ofW (cc := cX5_at) (maxL := 2) (ret := (some .int)) (by decide) rfl ?_
  intro p e s m args below meth c s₁ B hml hv
  obtain ⟨rfl, hw⟩ := q_start hv
  have hx := B.exec
  have hb := B.bytes
  have hr := B.returns
  have hlocks := B.notSynchronized
  have hl := lv_entry ([.ref a, .int i]) (n := 2) (Nat.le_of_ble_eq_true rfl)
  rw [lg_entry_eq]
  generalize (lg_sl ([.ref a, .int i]) ++ List.replicate (2 - (lg_sl ([.ref a, .int i])).length) Slot.unset).toArray = ls at hl ⊢
  have hl : lv_has ls 2 [(0, .ref a), (1, .int i)] := hl
  unfold at_ at er
  refine lv_iload_n hx hb dX5_at_0 rfl (lv_at hl 1 rfl) ?_
  refine lv_if_lt (tgt := 16) hx hb dX5_at_1 (by decide) (fun hc => ?_) (fun hc => ?_)
  · rw [if_pos hc] at er
    refine lv_iconst (v := 0) hx hb dX5_at_16 (by decide) ?_
    refine q_is er ?_
    exact q_iret hx hb hr hlocks hw dX5_at_17
  · rw [if_neg hc] at er
    refine lv_iload_n hx hb dX5_at_4 rfl (lv_at hl 1 rfl) ?_
    refine lv_aload_n hx hb dX5_at_5 rfl (lv_at hl 0 rfl) ?_
    refine q_alen hx hb hw q0 he rfl dX5_at_6 ?_
    refine lv_icmp_ge (tgt := 16) hx hb dX5_at_7 (by decide) (fun hc2 => ?_) (fun hc2 => ?_)
    · rw [if_pos hc2] at er
      refine lv_iconst (v := 0) hx hb dX5_at_16 (by decide) ?_
      refine q_is er ?_
      exact q_iret hx hb hr hlocks hw dX5_at_17
    · rw [if_neg hc2] at er
      refine lv_aload_n hx hb dX5_at_10 rfl (lv_at hl 0 rfl) ?_
      refine lv_iload_n hx hb dX5_at_11 rfl (lv_at hl 1 rfl) ?_
      refine q_iald hx hb hw q0 he (at_in hn hc hc2) dX5_at_12 ?_
      refine lv_goto (tgt := 17) hx hb dX5_at_13 (by decide) ?_
      refine q_is er ?_
      exact q_iret hx hb hr hlocks hw dX5_at_17
set_option maxHeartbeats 4000000 in
set_option maxRecDepth 100000 in
theorem c_X5_put {l : Launch} {D : va_G} {cI cR : ClassId} {A : Nat → Prop} {w w' : va_W} {a n q0 : Nat} {f : Nat → Int32} {i x : Int32} (he : w[q0]? = some (a, .inl (cI, n, .inl f))) (hset : w.set q0 (a, .inl (cI, n, .inl (put_ n f i x))) = w') (hn : n < 2 ^ 31 := by decide) : MC l yX5_put wsX5_put 0 0 D cI cR A [.ref a, .int i, .int x] w none w' := by
  refine Met.ofW (cc := cX5_put) (maxL := 3) (ret := none) (by decide) rfl ?_
  intro p e s m args below meth c s₁ B hml hv
  obtain ⟨rfl, hw⟩ := q_start hv
  have hx := B.exec
  have hb := B.bytes
  have hr := B.returns
  have hlocks := B.notSynchronized
  have hl := lv_entry ([.ref a, .int i, .int x]) (n := 3) (Nat.le_of_ble_eq_true rfl)
  rw [lg_entry_eq]
  generalize (lg_sl ([.ref a, .int i, .int x]) ++ List.replicate (3 - (lg_sl ([.ref a, .int i, .int x])).length) Slot.unset).toArray = ls at hl ⊢
  have hl : lv_has ls 3 [(0, .ref a), (1, .int i), (2, .int x)] := hl
  unfold put_ at hset
  have same : w.set q0 (a, .inl (cI, n, .inl f)) = w := by
    obtain ⟨h1, h2⟩ := List.getElem?_eq_some_iff.mp he
    rw [← h2]
    exact List.set_getElem_self h1
  refine lv_iload_n hx hb dX5_put_0 rfl (lv_at hl 1 rfl) ?_
  refine lv_if_lt (tgt := 14) hx hb dX5_put_1 (by decide) (fun hc => ?_) (fun hc => ?_)
  · rw [if_pos hc, same] at hset
    subst hset
    exact q_vret hx hb hr hlocks hw dX5_put_14
  · rw [if_neg hc] at hset
    refine lv_iload_n hx hb dX5_put_4 rfl (lv_at hl 1 rfl) ?_
    refine lv_aload_n hx hb dX5_put_5 rfl (lv_at hl 0 rfl) ?_
    refine q_alen hx hb hw q0 he rfl dX5_put_6 ?_
    refine lv_icmp_ge (tgt := 14) hx hb dX5_put_7 (by decide) (fun hc2 => ?_) (fun hc2 => ?_)
    · rw [if_pos hc2, same] at hset
      subst hset
      exact q_vret hx hb hr hlocks hw dX5_put_14
    · rw [if_neg hc2] at hset
      refine lv_aload_n hx hb dX5_put_10 rfl (lv_at hl 0 rfl) ?_
      refine lv_iload_n hx hb dX5_put_11 rfl (lv_at hl 1 rfl) ?_
      refine lv_iload_n hx hb dX5_put_12 rfl (lv_at hl 2 rfl) ?_
      refine q_iast hx hb hw q0 he (at_in hn hc hc2) dX5_put_13 hset (fun H locs hw => ?_)
      exact q_vret hx hb hr hlocks hw dX5_put_14
