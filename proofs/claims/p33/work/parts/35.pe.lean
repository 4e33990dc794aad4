/-! the pure part: the loops that change a state, in closed form -/
theorem upR_self {K : Nat → Nat → Int32} {r : Nat} : upR K r (K r) = K := by
  funext q
  unfold upR
  by_cases h : q = r
  · rw [if_pos h, h]
  · rw [if_neg h]
theorem upR_comm {K : Nat → Nat → Int32} {a b : Nat} {f g : Nat → Int32} (h : a ≠ b) : upR (upR K a f) b g = upR (upR K b g) a f := by
  funext q
  unfold upR
  by_cases h1 : q = a
  · subst h1
    rw [if_neg h, if_pos rfl, if_pos rfl]
  · by_cases h2 : q = b
    · rw [if_pos h2, if_neg h1, if_pos h2]
    · rw [if_neg h2, if_neg h1, if_neg h1, if_neg h2]
theorem x_sub0 (x : Int32) : x - nI 0 = x := Int32.sub_zero x
theorem x_add0 (x : Int32) : x + nI 0 = x := Int32.add_zero x
theorem nwout (g : Nat) (x : Int32) : f_X1_numberWithout (nI g) x = some (nw g x) := by
  unfold f_X1_numberWithout nw
  by_cases h : x ≤ nI g
  · rw [if_pos h, if_neg (by rw [Int32.lt_iff_toInt_lt]; rw [Int32.le_iff_toInt_le] at h; omega)]
  · rw [if_neg h, if_pos (by rw [Int32.lt_iff_toInt_lt]; rw [Int32.le_iff_toInt_le] at h; omega)]
    rfl
theorem nw_le {g : Nat} {x : Int32} (h : x ≤ nI g) : nw g x = x := by
  unfold nw
  rw [if_neg (by rw [Int32.lt_iff_toInt_lt]; rw [Int32.le_iff_toInt_le] at h; omega)]
theorem nw_gt {g : Nat} {x : Int32} (h : ¬ x ≤ nI g) : nw g x = x - nI 1 := by
  unfold nw
  rw [if_pos (by rw [Int32.lt_iff_toInt_lt]; rw [Int32.le_iff_toInt_le] at h; omega)]
theorem lp_gap {n rw : Nat} (hn : n ≤ 10) (hr : rw < 8) : ∀ (k i F : Nat) (K : RK), i + k + 1 = n → K 12 0 = nI n → k < F → ∃ f : Nat → Int32, f_X1_closeGap_l2 rw F K (nI i) = some (upR K rw f) ∧ ∀ j, f j = if i ≤ j ∧ j < n - 1 then K rw (j + 1) else K rw j := by
  intro k
  induction k with
  | zero =>
    intro i F K hi h12 hF
    obtain ⟨F, rfl⟩ : ∃ q, F = q + 1 := ⟨F - 1, by omega⟩
    refine ⟨K rw, ?_, fun j => by rw [if_neg (by omega)]⟩
    rw [upR_self]
    unfold f_X1_closeGap_l2
    simp (disch := omega) only [h12, ↓pu_m1, pu_i0, pu_i1, pu_i2, pu_i3, pu_i4, pu_i5, pu_i6, pu_i7, pu_i8, pu_i9, pu_i10, pu_i11, pu_i12, pu_i13, pu_i14, pu_i15, pu_i16, pu_i17, pu_i18, pu_i19, pu_i20, pu_i21, pu_i22, pu_i30, pu_i33, pu_i34, pu_i36, pu_i40, pu_i42, pu_i48, pu_i49, pu_i50, pu_i57, pu_i59, pu_i60, pu_i62, pu_i86, pu_i94, pu_i99, pu_i103, pu_i106, pu_i108, pu_i109, pu_i111, pu_i113, pu_i119, pu_i126, pu_i999, pu_bnd, pu_nm, pu_gd, pu_bnd2, pu_inb, pu_at, pu_put, pu_us, pu_un, pu_Rs, pu_Rn, pu_upS, pu_RR, nI_add, pk_mul, pk_sub, nI_clamp, nI_eq, nI_leI, nI_ltI, pu_nI_mI, pu_mI_nI, pu_mm, pu_nn, pu_nI_le_mI, pu_nI_lt_mI, pu_mI_lt, pu_mI_le, pu_inW, pu_inO, if_pos, if_neg, ↓reduceIte]
  | succ k ih =>
    intro i F K hi h12 hF
    obtain ⟨F, rfl⟩ : ∃ q, F = q + 1 := ⟨F - 1, by omega⟩
    have h12' : upR K rw (upd (K rw) i (K rw (i + 1))) 12 0 = nI n := by
      rw [pu_Rn (by omega)]
      exact h12
    obtain ⟨f, f1, f2⟩ := ih (i + 1) F _ (by omega) h12' (by omega)
    rw [pu_RR] at f1
    refine ⟨f, ?_, ?_⟩
    · unfold f_X1_closeGap_l2
      simp (disch := omega) only [h12, ↓pu_m1, pu_i0, pu_i1, pu_i2, pu_i3, pu_i4, pu_i5, pu_i6, pu_i7, pu_i8, pu_i9, pu_i10, pu_i11, pu_i12, pu_i13, pu_i14, pu_i15, pu_i16, pu_i17, pu_i18, pu_i19, pu_i20, pu_i21, pu_i22, pu_i30, pu_i33, pu_i34, pu_i36, pu_i40, pu_i42, pu_i48, pu_i49, pu_i50, pu_i57, pu_i59, pu_i60, pu_i62, pu_i86, pu_i94, pu_i99, pu_i103, pu_i106, pu_i108, pu_i109, pu_i111, pu_i113, pu_i119, pu_i126, pu_i999, pu_bnd, pu_nm, pu_gd, pu_bnd2, pu_inb, pu_at, pu_put, pu_us, pu_un, pu_Rs, pu_Rn, pu_upS, pu_RR, nI_add, pk_mul, pk_sub, nI_clamp, nI_eq, nI_leI, nI_ltI, pu_nI_mI, pu_mI_nI, pu_mm, pu_nn, pu_nI_le_mI, pu_nI_lt_mI, pu_mI_lt, pu_mI_le, pu_inW, pu_inO, if_pos, if_neg, ↓reduceIte]
      exact f1
    · intro j
      rw [f2 j, pu_Rs]
      by_cases e : j = i
      · rw [if_neg (by omega), if_pos (by omega), pu_us e, e]
      · by_cases e2 : i + 1 ≤ j ∧ j < n - 1
        · rw [if_pos e2, if_pos (by omega), pu_un (by omega)]
        · rw [if_neg e2, if_neg (by omega), pu_un e]
theorem lp_gap0 {n rw g : Nat} (hn : n ≤ 10) (hr : rw < 8) (hg : g < n) {K : RK} (h12 : K 12 0 = nI n) : ∃ f : Nat → Int32, f_X1_closeGap K rw (nI g) = some (upR K rw f) ∧ ∀ j, j < n - 1 → f j = K rw (sg g j) := by
  obtain ⟨f, f1, f2⟩ := lp_gap hn hr (n - 1 - g) g fuelN K (by omega) h12 (by unfold fuelN; omega)
  refine ⟨f, f1, ?_⟩
  intro j hj
  rw [f2 j]
  unfold sg
  by_cases e : j < g
  · rw [if_neg (by omega), if_pos e]
  · rw [if_pos (by omega), if_neg e]
theorem lp_ren {m g : Nat} (hm : m < 10) : ∀ (k i F : Nat) (K : RK), i + k = m → K 12 0 = nI m → k < F → ∃ f4 f5 : Nat → Int32, f_X1_takeOut_l84 F K (nI g) (nI i) = some (upR (upR K 4 f4) 5 f5) ∧ (∀ j, f4 j = if i ≤ j ∧ j < m then nw g (K 4 j) else K 4 j) ∧ (∀ j, f5 j = if i ≤ j ∧ j < m then nw g (K 5 j) else K 5 j) := by
  intro k
  induction k with
  | zero =>
    intro i F K hi h12 hF
    obtain ⟨F, rfl⟩ : ∃ q, F = q + 1 := ⟨F - 1, by omega⟩
    refine ⟨K 4, K 5, ?_, fun j => by rw [if_neg (by omega)], fun j => by rw [if_neg (by omega)]⟩
    rw [upR_self, upR_self]
    unfold f_X1_takeOut_l84
    simp (disch := omega) only [h12, ↓pu_m1, pu_i0, pu_i1, pu_i2, pu_i3, pu_i4, pu_i5, pu_i6, pu_i7, pu_i8, pu_i9, pu_i10, pu_i11, pu_i12, pu_i13, pu_i14, pu_i15, pu_i16, pu_i17, pu_i18, pu_i19, pu_i20, pu_i21, pu_i22, pu_i30, pu_i33, pu_i34, pu_i36, pu_i40, pu_i42, pu_i48, pu_i49, pu_i50, pu_i57, pu_i59, pu_i60, pu_i62, pu_i86, pu_i94, pu_i99, pu_i103, pu_i106, pu_i108, pu_i109, pu_i111, pu_i113, pu_i119, pu_i126, pu_i999, pu_bnd, pu_nm, pu_gd, pu_bnd2, pu_inb, pu_at, pu_put, pu_us, pu_un, pu_Rs, pu_Rn, pu_upS, pu_RR, nI_add, pk_mul, pk_sub, nI_clamp, nI_eq, nI_leI, nI_ltI, pu_nI_mI, pu_mI_nI, pu_mm, pu_nn, pu_nI_le_mI, pu_nI_lt_mI, pu_mI_lt, pu_mI_le, pu_inW, pu_inO, if_pos, if_neg, ↓reduceIte]
  | succ k ih =>
    intro i F K hi h12 hF
    obtain ⟨F, rfl⟩ : ∃ q, F = q + 1 := ⟨F - 1, by omega⟩
    have h12' : upR (upR K 4 (upd (K 4) i (nw g (K 4 i)))) 5 (upd (K 5) i (nw g (K 5 i))) 12 0 = nI m := by
      rw [pu_Rn (by omega), pu_Rn (by omega)]
      exact h12
    obtain ⟨f4, f5, f1, f2, f3⟩ := ih (i + 1) F _ (by omega) h12' (by omega)
    rw [upR_comm (K := upR K 4 (upd (K 4) i (nw g (K 4 i)))) (show 5 ≠ 4 by omega), pu_RR, pu_RR] at f1
    refine ⟨f4, f5, ?_, ?_, ?_⟩
    · unfold f_X1_takeOut_l84
      simp (disch := omega) only [h12, nwout, ↓pu_m1, pu_i0, pu_i1, pu_i2, pu_i3, pu_i4, pu_i5, pu_i6, pu_i7, pu_i8, pu_i9, pu_i10, pu_i11, pu_i12, pu_i13, pu_i14, pu_i15, pu_i16, pu_i17, pu_i18, pu_i19, pu_i20, pu_i21, pu_i22, pu_i30, pu_i33, pu_i34, pu_i36, pu_i40, pu_i42, pu_i48, pu_i49, pu_i50, pu_i57, pu_i59, pu_i60, pu_i62, pu_i86, pu_i94, pu_i99, pu_i103, pu_i106, pu_i108, pu_i109, pu_i111, pu_i113, pu_i119, pu_i126, pu_i999, pu_bnd, pu_nm, pu_gd, pu_bnd2, pu_inb, pu_at, pu_put, pu_us, pu_un, pu_Rs, pu_Rn, pu_upS, pu_RR, nI_add, pk_mul, pk_sub, nI_clamp, nI_eq, nI_leI, nI_ltI, pu_nI_mI, pu_mI_nI, pu_mm, pu_nn, pu_nI_le_mI, pu_nI_lt_mI, pu_mI_lt, pu_mI_le, pu_inW, pu_inO, if_pos, if_neg, ↓reduceIte]
      exact f1
    · intro j
      rw [f2 j, pu_Rn (by omega), pu_Rs]
      by_cases e : j = i
      · rw [if_neg (by omega), if_pos (by omega), pu_us e, e]
      · by_cases e2 : i + 1 ≤ j ∧ j < m
        · rw [if_pos e2, if_pos (by omega), pu_un e]
        · rw [if_neg e2, if_neg (by omega), pu_un e]
    · intro j
      rw [f3 j, pu_Rs]
      by_cases e : j = i
      · rw [if_neg (by omega), if_pos (by omega), pu_us e, e]
      · by_cases e2 : i + 1 ≤ j ∧ j < m
        · rw [if_pos e2, if_pos (by omega), pu_un e]
        · rw [if_neg e2, if_neg (by omega), pu_un e]
theorem lp_renl {g : Nat} : ∀ (k i F : Nat) (K : RK), i + k = 30 → k < F → ∃ f : Nat → Int32, f_X3_renumberWithout_l2 F K (nI g) (nI i) = some (upR K 8 f) ∧ ∀ j, f j = if i ≤ j ∧ j < 30 then nw g (K 8 j) else K 8 j := by
  intro k
  induction k with
  | zero =>
    intro i F K hi hF
    obtain ⟨F, rfl⟩ : ∃ q, F = q + 1 := ⟨F - 1, by omega⟩
    refine ⟨K 8, ?_, fun j => by rw [if_neg (by omega)]⟩
    rw [upR_self]
    unfold f_X3_renumberWithout_l2
    simp (disch := omega) only [↓pu_m1, pu_i0, pu_i1, pu_i2, pu_i3, pu_i4, pu_i5, pu_i6, pu_i7, pu_i8, pu_i9, pu_i10, pu_i11, pu_i12, pu_i13, pu_i14, pu_i15, pu_i16, pu_i17, pu_i18, pu_i19, pu_i20, pu_i21, pu_i22, pu_i30, pu_i33, pu_i34, pu_i36, pu_i40, pu_i42, pu_i48, pu_i49, pu_i50, pu_i57, pu_i59, pu_i60, pu_i62, pu_i86, pu_i94, pu_i99, pu_i103, pu_i106, pu_i108, pu_i109, pu_i111, pu_i113, pu_i119, pu_i126, pu_i999, pu_bnd, pu_nm, pu_gd, pu_bnd2, pu_inb, pu_at, pu_put, pu_us, pu_un, pu_Rs, pu_Rn, pu_upS, pu_RR, nI_add, pk_mul, pk_sub, nI_clamp, nI_eq, nI_leI, nI_ltI, pu_nI_mI, pu_mI_nI, pu_mm, pu_nn, pu_nI_le_mI, pu_nI_lt_mI, pu_mI_lt, pu_mI_le, pu_inW, pu_inO, if_pos, if_neg, ↓reduceIte]
  | succ k ih =>
    intro i F K hi hF
    obtain ⟨F, rfl⟩ : ∃ q, F = q + 1 := ⟨F - 1, by omega⟩
    obtain ⟨f, f1, f2⟩ := ih (i + 1) F (upR K 8 (upd (K 8) i (nw g (K 8 i)))) (by omega) (by omega)
    rw [pu_RR] at f1
    refine ⟨f, ?_, ?_⟩
    · unfold f_X3_renumberWithout_l2
      simp (disch := omega) only [nwout, ↓pu_m1, pu_i0, pu_i1, pu_i2, pu_i3, pu_i4, pu_i5, pu_i6, pu_i7, pu_i8, pu_i9, pu_i10, pu_i11, pu_i12, pu_i13, pu_i14, pu_i15, pu_i16, pu_i17, pu_i18, pu_i19, pu_i20, pu_i21, pu_i22, pu_i30, pu_i33, pu_i34, pu_i36, pu_i40, pu_i42, pu_i48, pu_i49, pu_i50, pu_i57, pu_i59, pu_i60, pu_i62, pu_i86, pu_i94, pu_i99, pu_i103, pu_i106, pu_i108, pu_i109, pu_i111, pu_i113, pu_i119, pu_i126, pu_i999, pu_bnd, pu_nm, pu_gd, pu_bnd2, pu_inb, pu_at, pu_put, pu_us, pu_un, pu_Rs, pu_Rn, pu_upS, pu_RR, nI_add, pk_mul, pk_sub, nI_clamp, nI_eq, nI_leI, nI_ltI, pu_nI_mI, pu_mI_nI, pu_mm, pu_nn, pu_nI_le_mI, pu_nI_lt_mI, pu_mI_lt, pu_mI_le, pu_inW, pu_inO, if_pos, if_neg, ↓reduceIte]
      exact f1
    · intro j
      rw [f2 j, pu_Rs]
      by_cases e : j = i
      · rw [if_neg (by omega), if_pos (by omega), pu_us e, e]
      · by_cases e2 : i + 1 ≤ j ∧ j < 30
        · rw [if_pos e2, if_pos (by omega), pu_un e]
        · rw [if_neg e2, if_neg (by omega), pu_un e]
theorem lp_take {c L : Nat} (hc : c < 3) (hL : L ≤ 10) (x3 : Int32) : ∀ (k i F : Nat) (K : RK), i + k + 1 = L → k < F → ∃ f : Nat → Int32, f_X3_takeFirst_l25 F K (nI c) (nI L) x3 (nI i) = some (x3, upR (upR K 8 f) 9 (upd (K 9) c (nI (L - 1)))) ∧ ∀ j, f j = if c * 10 + i ≤ j ∧ j < c * 10 + L - 1 then K 8 (j + 1) else K 8 j := by
  intro k
  induction k with
  | zero =>
    intro i F K hi hF
    obtain ⟨F, rfl⟩ : ∃ q, F = q + 1 := ⟨F - 1, by omega⟩
    refine ⟨K 8, ?_, fun j => by rw [if_neg (by omega)]⟩
    rw [upR_self]
    unfold f_X3_takeFirst_l25
    simp (disch := omega) only [↓pu_m1, pu_i0, pu_i1, pu_i2, pu_i3, pu_i4, pu_i5, pu_i6, pu_i7, pu_i8, pu_i9, pu_i10, pu_i11, pu_i12, pu_i13, pu_i14, pu_i15, pu_i16, pu_i17, pu_i18, pu_i19, pu_i20, pu_i21, pu_i22, pu_i30, pu_i33, pu_i34, pu_i36, pu_i40, pu_i42, pu_i48, pu_i49, pu_i50, pu_i57, pu_i59, pu_i60, pu_i62, pu_i86, pu_i94, pu_i99, pu_i103, pu_i106, pu_i108, pu_i109, pu_i111, pu_i113, pu_i119, pu_i126, pu_i999, pu_bnd, pu_nm, pu_gd, pu_bnd2, pu_inb, pu_at, pu_put, pu_us, pu_un, pu_Rs, pu_Rn, pu_upS, pu_RR, nI_add, pk_mul, pk_sub, nI_clamp, nI_eq, nI_leI, nI_ltI, pu_nI_mI, pu_mI_nI, pu_mm, pu_nn, pu_nI_le_mI, pu_nI_lt_mI, pu_mI_lt, pu_mI_le, pu_inW, pu_inO, if_pos, if_neg, ↓reduceIte]
  | succ k ih =>
    intro i F K hi hF
    obtain ⟨F, rfl⟩ : ∃ q, F = q + 1 := ⟨F - 1, by omega⟩
    obtain ⟨f, f1, f2⟩ := ih (i + 1) F (upR K 8 (upd (K 8) (c * 10 + i) (K 8 (c * 10 + (i + 1))))) (by omega) (by omega)
    rw [pu_RR, pu_Rn (by omega)] at f1
    refine ⟨f, ?_, ?_⟩
    · unfold f_X3_takeFirst_l25
      simp (disch := omega) only [f_X3_standingAt, ↓pu_m1, pu_i0, pu_i1, pu_i2, pu_i3, pu_i4, pu_i5, pu_i6, pu_i7, pu_i8, pu_i9, pu_i10, pu_i11, pu_i12, pu_i13, pu_i14, pu_i15, pu_i16, pu_i17, pu_i18, pu_i19, pu_i20, pu_i21, pu_i22, pu_i30, pu_i33, pu_i34, pu_i36, pu_i40, pu_i42, pu_i48, pu_i49, pu_i50, pu_i57, pu_i59, pu_i60, pu_i62, pu_i86, pu_i94, pu_i99, pu_i103, pu_i106, pu_i108, pu_i109, pu_i111, pu_i113, pu_i119, pu_i126, pu_i999, pu_bnd, pu_nm, pu_gd, pu_bnd2, pu_inb, pu_at, pu_put, pu_us, pu_un, pu_Rs, pu_Rn, pu_upS, pu_RR, nI_add, pk_mul, pk_sub, nI_clamp, nI_eq, nI_leI, nI_ltI, pu_nI_mI, pu_mI_nI, pu_mm, pu_nn, pu_nI_le_mI, pu_nI_lt_mI, pu_mI_lt, pu_mI_le, pu_inW, pu_inO, if_pos, if_neg, ↓reduceIte]
      exact f1
    · intro j
      rw [f2 j, pu_Rs]
      by_cases e : j = c * 10 + i
      · rw [if_neg (by omega), if_pos (by omega), pu_us e, e, Nat.add_assoc]
      · by_cases e2 : c * 10 + (i + 1) ≤ j ∧ j < c * 10 + L - 1
        · rw [if_pos e2, if_pos (by omega), pu_un (by omega)]
        · rw [if_neg e2, if_neg (by omega), pu_un e]
/-! the pure part: the changes of a state, class and reference side by side -/
theorem upd_comm {w : Nat → Int32} {a b : Nat} {x y : Int32} (h : a ≠ b) : upd (upd w a x) b y = upd (upd w b y) a x := by
  funext j
  by_cases h1 : j = a
  · rw [pu_un (by omega), pu_us h1, pu_us h1]
  · by_cases h2 : j = b
    · rw [pu_us h2, pu_un h1, pu_us h2]
    · rw [pu_un h2, pu_un h1, pu_un h1, pu_un h2]
theorem upd_same {w : Nat → Int32} {a : Nat} : upd w a (w a) = w := by
  funext j
  by_cases h : j = a
  · rw [pu_us h, h]
  · rw [pu_un h]
theorem o_open0 {B n : Nat} {l : Nat → Nat} {K : RK} {w : Nat → Int32} (h : Rel B n l K w) {c : Nat} (hc : c < 3) (h0 : l c = 0) : f_X0_openOnce K (nI c) = some (nI 0, K) := by
  have a9 := h.2.2.2.1.1 c hc
  rw [h0] at a9
  unfold f_X0_openOnce f_X3_takeFirst f_X1_has
  simp (disch := omega) only [a9, ↓pu_m1, pu_i0, pu_i1, pu_i2, pu_i3, pu_i4, pu_i5, pu_i6, pu_i7, pu_i8, pu_i9, pu_i10, pu_i11, pu_i12, pu_i13, pu_i14, pu_i15, pu_i16, pu_i17, pu_i18, pu_i19, pu_i20, pu_i21, pu_i22, pu_i30, pu_i33, pu_i34, pu_i36, pu_i40, pu_i42, pu_i48, pu_i49, pu_i50, pu_i57, pu_i59, pu_i60, pu_i62, pu_i86, pu_i94, pu_i99, pu_i103, pu_i106, pu_i108, pu_i109, pu_i111, pu_i113, pu_i119, pu_i126, pu_i999, pu_bnd, pu_nm, pu_gd, pu_bnd2, pu_inb, pu_at, pu_put, pu_us, pu_un, pu_Rs, pu_Rn, pu_upS, pu_RR, nI_add, pk_mul, pk_sub, nI_clamp, nI_eq, nI_leI, nI_ltI, pu_nI_mI, pu_mI_nI, pu_mm, pu_nn, pu_nI_le_mI, pu_nI_lt_mI, pu_mI_lt, pu_mI_le, pu_inW, pu_inO, if_pos, if_neg, ↓reduceIte]

/-! the pure part: a gate opens, a night ends, a guest comes, a guest leaves, a setting -/
def ooR (K2 : RK) (r1 a1 : Int32) : Option (Int32 × RK) := bnd (f_X1_has K2 r1) (fun r3 => (if r3 = 0 then some (0, K2) else bnd (f_X0_ellsTooMuch K2 r1 a1) (fun r4 => nm (at_ 6 (K2 10) 3) (fun r5 => bnd (f_X0_leftOfFine K2 r1 (r4 * r5)) (fun r6 => bnd (f_X0_paidByLender K2 r1 r6) (fun r7 => bnd (f_X0_paidByGuest K2 r1 (r4 * r5)) (fun r8 => bnd2 (f_X1_payFromPurse K2 r1 r8) (fun r9 K10 => nm (upS K10 11 1 ((K2 11 1) + r9)) (fun K11 => (if r7 ≤ 0 then f_X0_openOnce_b117 K11 r1 r4 r6 r7 else nm (at_ 10 (K11 4) r1) (fun r12 => bnd2 (f_X1_payFromPurse K11 r12 r7) (fun r13 K14 => nm (upS K14 11 1 ((K11 11 1) + r13)) (fun K15 => f_X0_openOnce_b117 K15 r1 r4 r6 r7)))))))))))))
theorem o_takeOut {n g : Nat} (hn : n ≤ 10) (hg : g < n) {K : RK} (h12 : K 12 0 = nI n) : ∃ K2 : RK, f_X1_takeOut K (nI g) = some K2 ∧ (∀ r, r < 8 → r ≠ 4 → r ≠ 5 → ∀ j, j < n - 1 → K2 r j = K r (sg g j)) ∧ (∀ j, j < n - 1 → K2 4 j = nw g (K 4 (sg g j))) ∧ (∀ j, j < n - 1 → K2 5 j = nw g (K 5 (sg g j))) ∧ K2 8 = K 8 ∧ K2 9 = K 9 ∧ K2 10 = K 10 ∧ K2 11 = K 11 ∧ K2 12 0 = nI (n - 1) := by
  obtain ⟨f0, a0, b0⟩ := lp_gap0 (rw := 0) hn (by omega) hg h12
  obtain ⟨f1, a1, b1⟩ := lp_gap0 (rw := 1) (K := upR K 0 f0) hn (by omega) hg (by simp (disch := omega) only [pu_Rn]; exact h12)
  obtain ⟨f2, a2, b2⟩ := lp_gap0 (rw := 2) (K := upR (upR K 0 f0) 1 f1) hn (by omega) hg (by simp (disch := omega) only [pu_Rn]; exact h12)
  obtain ⟨f3, a3, b3⟩ := lp_gap0 (rw := 3) (K := upR (upR (upR K 0 f0) 1 f1) 2 f2) hn (by omega) hg (by simp (disch := omega) only [pu_Rn]; exact h12)
  obtain ⟨f4, a4, b4⟩ := lp_gap0 (rw := 4) (K := upR (upR (upR (upR K 0 f0) 1 f1) 2 f2) 3 f3) hn (by omega) hg (by simp (disch := omega) only [pu_Rn]; exact h12)
  obtain ⟨f5, a5, b5⟩ := lp_gap0 (rw := 5) (K := upR (upR (upR (upR (upR K 0 f0) 1 f1) 2 f2) 3 f3) 4 f4) hn (by omega) hg (by simp (disch := omega) only [pu_Rn]; exact h12)
  obtain ⟨f6, a6, b6⟩ := lp_gap0 (rw := 6) (K := upR (upR (upR (upR (upR (upR K 0 f0) 1 f1) 2 f2) 3 f3) 4 f4) 5 f5) hn (by omega) hg (by simp (disch := omega) only [pu_Rn]; exact h12)
  obtain ⟨f7, a7, b7⟩ := lp_gap0 (rw := 7) (K := upR (upR (upR (upR (upR (upR (upR K 0 f0) 1 f1) 2 f2) 3 f3) 4 f4) 5 f5) 6 f6) hn (by omega) hg (by simp (disch := omega) only [pu_Rn]; exact h12)
  simp (disch := omega) only [pu_Rn] at b1 b2 b3 b4 b5 b6 b7
  have e12 : upR (upR (upR (upR (upR (upR (upR (upR (upR K 0 f0) 1 f1) 2 f2) 3 f3) 4 f4) 5 f5) 6 f6) 7 f7) 12 (upd (K 12) 0 (nI (n - 1))) 12 0 = nI (n - 1) := by
    rw [pu_Rs, pu_us rfl]
  obtain ⟨u4, u5, c1, c2, c3⟩ := lp_ren (g := g) (show n - 1 < 10 by omega) (n - 1) 0 fuelN _ (by omega) e12 (by unfold fuelN; omega)
  simp (disch := omega) only [pu_Rn, pu_Rs] at c2 c3
  refine ⟨upR (upR (upR (upR (upR (upR (upR (upR (upR (upR (upR K 0 f0) 1 f1) 2 f2) 3 f3) 4 f4) 5 f5) 6 f6) 7 f7) 12 (upd (K 12) 0 (nI (n - 1)))) 4 u4) 5 u5, ?_, ?_, ?_, ?_, ?_, ?_, ?_, ?_, ?_⟩
  · unfold f_X1_takeOut
    rw [a0, pu_bnd, a1, pu_bnd, a2, pu_bnd, a3, pu_bnd, a4, pu_bnd, a5, pu_bnd, a6, pu_bnd, a7, pu_bnd]
    simp (disch := omega) only [h12, ↓pu_m1, pu_i0, pu_i1, pu_i2, pu_i3, pu_i4, pu_i5, pu_i6, pu_i7, pu_i8, pu_i9, pu_i10, pu_i11, pu_i12, pu_i13, pu_i14, pu_i15, pu_i16, pu_i17, pu_i18, pu_i19, pu_i20, pu_i21, pu_i22, pu_i30, pu_i33, pu_i34, pu_i36, pu_i40, pu_i42, pu_i48, pu_i49, pu_i50, pu_i57, pu_i59, pu_i60, pu_i62, pu_i86, pu_i94, pu_i99, pu_i103, pu_i106, pu_i108, pu_i109, pu_i111, pu_i113, pu_i119, pu_i126, pu_i999, pu_bnd, pu_nm, pu_gd, pu_bnd2, pu_inb, pu_at, pu_put, pu_us, pu_un, pu_Rs, pu_Rn, pu_upS, pu_RR, nI_add, pk_mul, pk_sub, nI_clamp, nI_eq, nI_leI, nI_ltI, pu_nI_mI, pu_mI_nI, pu_mm, pu_nn, pu_nI_le_mI, pu_nI_lt_mI, pu_mI_lt, pu_mI_le, pu_inW, pu_inO, if_pos, if_neg, ↓reduceIte]
    exact c1
  · intro r hr r4 r5 j hj
    rcases (show r = 0 ∨ r = 1 ∨ r = 2 ∨ r = 3 ∨ r = 6 ∨ r = 7 by omega) with e | e | e | e | e | e <;> subst e <;> simp (disch := omega) only [pu_Rn, pu_Rs]
    · exact b0 j hj
    · exact b1 j hj
    · exact b2 j hj
    · exact b3 j hj
    · exact b6 j hj
    · exact b7 j hj
  · intro j hj
    simp (disch := omega) only [pu_Rn, pu_Rs]
    rw [c2, if_pos (by omega), b4 j hj]
  · intro j hj
    simp (disch := omega) only [pu_Rn, pu_Rs]
    rw [c3, if_pos (by omega), b5 j hj]
  · simp (disch := omega) only [pu_Rn]
  · simp (disch := omega) only [pu_Rn]
  · simp (disch := omega) only [pu_Rn]
  · simp (disch := omega) only [pu_Rn]
  · simp (disch := omega) only [pu_Rn, pu_Rs, pu_us]