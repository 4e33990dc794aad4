/-! the pure part: rewriting rows -/
def mI : Int32 := -1
def rg (x : Int32) (m : Nat) : Prop := ∃ v : Nat, v ≤ m ∧ x = nI v
theorem pu_m1 : (-1 : Int32) = mI := Eq.trans rfl rfl
theorem pu_i0 : (0 : Int32) = nI 0 := Eq.trans rfl rfl
theorem pu_i1 : (1 : Int32) = nI 1 := Eq.trans rfl rfl
theorem pu_i2 : (2 : Int32) = nI 2 := Eq.trans rfl rfl
theorem pu_i3 : (3 : Int32) = nI 3 := Eq.trans rfl rfl
theorem pu_i4 : (4 : Int32) = nI 4 := Eq.trans rfl rfl
theorem pu_i5 : (5 : Int32) = nI 5 := Eq.trans rfl rfl
theorem pu_i6 : (6 : Int32) = nI 6 := Eq.trans rfl rfl
theorem pu_i7 : (7 : Int32) = nI 7 := Eq.trans rfl rfl
theorem pu_i8 : (8 : Int32) = nI 8 := Eq.trans rfl rfl
theorem pu_i9 : (9 : Int32) = nI 9 := Eq.trans rfl rfl
theorem pu_i10 : (10 : Int32) = nI 10 := Eq.trans rfl rfl
theorem pu_i11 : (11 : Int32) = nI 11 := Eq.trans rfl rfl
theorem pu_i12 : (12 : Int32) = nI 12 := Eq.trans rfl rfl
theorem pu_i13 : (13 : Int32) = nI 13 := Eq.trans rfl rfl
theorem pu_i14 : (14 : Int32) = nI 14 := Eq.trans rfl rfl
theorem pu_i15 : (15 : Int32) = nI 15 := Eq.trans rfl rfl
theorem pu_i16 : (16 : Int32) = nI 16 := Eq.trans rfl rfl
theorem pu_i17 : (17 : Int32) = nI 17 := Eq.trans rfl rfl
theorem pu_i18 : (18 : Int32) = nI 18 := Eq.trans rfl rfl
theorem pu_i19 : (19 : Int32) = nI 19 := Eq.trans rfl rfl
theorem pu_i20 : (20 : Int32) = nI 20 := Eq.trans rfl rfl
theorem pu_i21 : (21 : Int32) = nI 21 := Eq.trans rfl rfl
theorem pu_i22 : (22 : Int32) = nI 22 := Eq.trans rfl rfl
theorem pu_i23 : (23 : Int32) = nI 23 := Eq.trans rfl rfl
theorem pu_i30 : (30 : Int32) = nI 30 := Eq.trans rfl rfl
theorem pu_i33 : (33 : Int32) = nI 33 := Eq.trans rfl rfl
theorem pu_i34 : (34 : Int32) = nI 34 := Eq.trans rfl rfl
theorem pu_i35 : (35 : Int32) = nI 35 := Eq.trans rfl rfl
theorem pu_i36 : (36 : Int32) = nI 36 := Eq.trans rfl rfl
theorem pu_i40 : (40 : Int32) = nI 40 := Eq.trans rfl rfl
theorem pu_i41 : (41 : Int32) = nI 41 := Eq.trans rfl rfl
theorem pu_i42 : (42 : Int32) = nI 42 := Eq.trans rfl rfl
theorem pu_i45 : (45 : Int32) = nI 45 := Eq.trans rfl rfl
theorem pu_i46 : (46 : Int32) = nI 46 := Eq.trans rfl rfl
theorem pu_i48 : (48 : Int32) = nI 48 := Eq.trans rfl rfl
theorem pu_i49 : (49 : Int32) = nI 49 := Eq.trans rfl rfl
theorem pu_i50 : (50 : Int32) = nI 50 := Eq.trans rfl rfl
theorem pu_i57 : (57 : Int32) = nI 57 := Eq.trans rfl rfl
theorem pu_i59 : (59 : Int32) = nI 59 := Eq.trans rfl rfl
theorem pu_i60 : (60 : Int32) = nI 60 := Eq.trans rfl rfl
theorem pu_i62 : (62 : Int32) = nI 62 := Eq.trans rfl rfl
theorem pu_i66 : (66 : Int32) = nI 66 := Eq.trans rfl rfl
theorem pu_i86 : (86 : Int32) = nI 86 := Eq.trans rfl rfl
theorem pu_i94 : (94 : Int32) = nI 94 := Eq.trans rfl rfl
theorem pu_i99 : (99 : Int32) = nI 99 := Eq.trans rfl rfl
theorem pu_i100 : (100 : Int32) = nI 100 := Eq.trans rfl rfl
theorem pu_i103 : (103 : Int32) = nI 103 := Eq.trans rfl rfl
theorem pu_i106 : (106 : Int32) = nI 106 := Eq.trans rfl rfl
theorem pu_i108 : (108 : Int32) = nI 108 := Eq.trans rfl rfl
theorem pu_i109 : (109 : Int32) = nI 109 := Eq.trans rfl rfl
theorem pu_i111 : (111 : Int32) = nI 111 := Eq.trans rfl rfl
theorem pu_i113 : (113 : Int32) = nI 113 := Eq.trans rfl rfl
theorem pu_i119 : (119 : Int32) = nI 119 := Eq.trans rfl rfl
theorem pu_i126 : (126 : Int32) = nI 126 := Eq.trans rfl rfl
theorem pu_i999 : (999 : Int32) = nI 999 := Eq.trans rfl rfl
theorem pu_mIt : mI.toInt = -1 := by decide
theorem pu_mI_nI {a : Nat} (h : a < 2 ^ 31) : (mI = nI a) = False := by
  apply eq_false
  intro e
  have e2 := congrArg Int32.toInt e
  rw [nI_toInt h, pu_mIt] at e2
  omega
theorem pu_nI_mI {a : Nat} (h : a < 2 ^ 31) : (nI a = mI) = False := eq_false (fun e => cast (pu_mI_nI h) e.symm)
theorem nI_nm {a : Nat} (h : a < 2 ^ 31) : ¬ nI a = mI := by
  rw [pu_nI_mI h]
  exact fun q => q
theorem pu_mm : (mI = mI) = True := eq_true rfl
theorem pu_nn (a : Nat) : (nI a = nI a) = True := eq_true rfl
theorem pu_nI_le_mI {a : Nat} (h : a < 2 ^ 31) : (nI a ≤ mI) = False := by
  apply eq_false
  rw [Int32.le_iff_toInt_le, nI_toInt h, pu_mIt]
  omega
theorem pu_nI_lt_mI {a : Nat} (h : a < 2 ^ 31) : (nI a < mI) = False := by
  apply eq_false
  rw [Int32.lt_iff_toInt_lt, nI_toInt h, pu_mIt]
  omega
theorem pu_mI_lt {a : Nat} (h : a < 2 ^ 31) : (mI < nI a) = True := by
  apply eq_true
  rw [Int32.lt_iff_toInt_lt, nI_toInt h, pu_mIt]
  omega
theorem pu_mI_le {a : Nat} (h : a < 2 ^ 31) : (mI ≤ nI a) = True := by
  apply eq_true
  rw [Int32.le_iff_toInt_le, nI_toInt h, pu_mIt]
  omega
theorem pu_bnd {α β : Type} (a : α) (f : α → Option β) : bnd (some a) f = f a := Eq.trans rfl rfl
theorem pu_nm {α β : Type} (a : α) (f : α → Option β) : nm a f = f a := Eq.trans rfl rfl
theorem pu_gd {β : Type} (x : Option β) : gd true x = x := Eq.trans rfl rfl
theorem pu_bnd2 {α β γ : Type} (a : α) (b : β) (f : α → β → Option γ) : bnd2 (some (a, b)) f = f a b := Eq.trans rfl rfl
theorem pu_inb {a N : Nat} (h : a < N) (hN : N < 2 ^ 31) : inb (nI a) N = true := by
  unfold inb
  rw [decide_eq_false (nI_pos (Nat.lt_trans h hN)), nI_clamp (Nat.lt_trans h hN), decide_eq_true h]
  rfl
theorem pu_at {f : Nat → Int32} {g N : Nat} (h : g < N) (hN : N < 2 ^ 31) : at_ N f (nI g) = f g := by
  unfold at_
  rw [if_neg (nI_pos (Nat.lt_trans h hN)), if_neg (show ¬ Int32.ofNat N ≤ nI g from nI_ge h hN), nI_clamp (Nat.lt_trans h hN)]
theorem pu_put {f : Nat → Int32} {g N : Nat} {x : Int32} (h : g < N) (hN : N < 2 ^ 31) : put_ N f (nI g) x = upd f g x := by
  unfold put_
  rw [if_neg (nI_pos (Nat.lt_trans h hN)), if_neg (show ¬ Int32.ofNat N ≤ nI g from nI_ge h hN), nI_clamp (Nat.lt_trans h hN)]
theorem pu_us {f : Nat → Int32} {j k : Nat} {x : Int32} (h : j = k) : upd f k x j = x := by
  subst h
  exact pk_us
theorem pu_un {f : Nat → Int32} {j k : Nat} {x : Int32} (h : j ≠ k) : upd f k x j = f j := pk_un h
theorem pu_Rs {K : Nat → Nat → Int32} {r : Nat} {f : Nat → Int32} : upR K r f r = f := if_pos rfl
theorem pu_Rn {K : Nat → Nat → Int32} {r q : Nat} {f : Nat → Int32} (h : q ≠ r) : upR K r f q = K q := if_neg h
theorem pu_upS {K : Nat → Nat → Int32} {r i : Nat} {v : Int32} : upS K r i v = upR K r (upd (K r) i v) := Eq.trans rfl rfl
theorem pu_RR {K : Nat → Nat → Int32} {r : Nat} {f g : Nat → Int32} : upR (upR K r f) r g = upR K r g := by
  funext q
  unfold upR
  by_cases h : q = r
  · rw [if_pos h, if_pos h]
  · rw [if_neg h, if_neg h, if_neg h]
theorem pu_inW {j a b : Nat} (h1 : a ≤ j) (h2 : j ≤ b) (hb : b < 2 ^ 31) : f_X5_isWithin (nI j) (nI a) (nI b) = some (nI 1) := by
  unfold f_X5_isWithin
  rw [if_neg (nI_nlt h1 (by omega)), if_neg (nI_nlt h2 hb)]
  rfl
theorem pu_inO {j a b : Nat} (h : j < a ∨ b < j) (hj : j < 2 ^ 31) (ha : a < 2 ^ 31) : f_X5_isWithin (nI j) (nI a) (nI b) = some (nI 0) := by
  unfold f_X5_isWithin
  by_cases h1 : j < a
  · rw [if_pos (nI_lt h1 ha)]
    rfl
  · rw [if_neg (nI_nlt (by omega) hj), if_pos (nI_lt (by omega) hj)]
    rfl
theorem pu_within (x : Int32) {a b : Nat} (ha : a < 2 ^ 31) (hb : b < 2 ^ 31) : f_X5_isWithin x (nI a) (nI b) = some (nI 0) ∨ ∃ j : Nat, a ≤ j ∧ j ≤ b ∧ x = nI j := by
  by_cases h1 : x < nI a
  · left
    unfold f_X5_isWithin
    rw [if_pos h1]
    rfl
  · by_cases h2 : nI b < x
    · left
      unfold f_X5_isWithin
      rw [if_neg h1, if_pos h2]
      rfl
    · right
      rw [Int32.lt_iff_toInt_lt, nI_toInt ha] at h1
      rw [Int32.lt_iff_toInt_lt, nI_toInt hb] at h2
      obtain ⟨j, hj, rfl⟩ := nI_of (x := x) (by rw [Int32.lt_iff_toInt_lt, show (0 : Int32).toInt = 0 from by decide]; omega)
      rw [nI_toInt hj] at h1 h2
      exact ⟨j, by omega, by omega, rfl⟩
theorem pu_min {a b : Nat} (ha : a < 2 ^ 31) (hb : b < 2 ^ 31) : imin (nI a) (nI b) = nI (min a b) := by
  unfold imin
  by_cases h : b < a
  · rw [if_pos (nI_lt h ha), Nat.min_eq_right (by omega)]
  · rw [if_neg (nI_nlt (by omega) hb), Nat.min_eq_left (by omega)]
theorem pu_max {a b : Nat} (ha : a < 2 ^ 31) (hb : b < 2 ^ 31) : imax (nI a) (nI b) = nI (max a b) := by
  unfold imax
  by_cases h : a < b
  · rw [if_pos (nI_lt h hb), Nat.max_eq_right (by omega)]
  · rw [if_neg (nI_nlt (by omega) ha), Nat.max_eq_left (by omega)]
theorem pu_maxs {a b : Nat} (ha : a < 2 ^ 30) (hb : b < 2 ^ 30) : imax (nI a - nI b) (nI 0) = nI (a - b) := by
  by_cases h : b ≤ a
  · rw [pk_sub h, pu_max (by omega) (by omega), Nat.max_eq_left (by omega)]
  · unfold imax
    rw [if_pos (show nI a - nI b < nI 0 from pk_sneg hb (by omega)), show a - b = 0 from by omega]
theorem pu_eqE {a b : Nat} (ha : a < 2 ^ 31) (hb : b < 2 ^ 31) (h : nI a = nI b) : a = b := (nI_eq ha hb).mp h
