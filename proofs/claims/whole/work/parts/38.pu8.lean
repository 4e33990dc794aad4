/-! the pure part: the loops that change a state, in closed form -/
theorem upR_self {K : Nat → Nat → Int32} {r : Nat} : upR K r (K r) = K := by
  funext q
  unfold upR
  by_cases h : q = r
  · rw [if_pos h, h]
  · rw [if_neg h]
theorem upR_comm {K : Nat → Nat → Int32} {a b : Nat} {f g : Nat → Int32} (h : a ≠ b) : upR (upR K a f) b g = upR (upR K b g) a f := by
  funext q
  unfold upR
  by_cases h1 : q = a
  · subst h1
    rw [if_neg h, if_pos rfl, if_pos rfl]
  · by_cases h2 : q = b
    · rw [if_pos h2, if_neg h1, if_pos h2]
    · rw [if_neg h2, if_neg h1, if_neg h1, if_neg h2]
theorem upM_self {M : MS} {r : Nat} : upM M r (M.1 r) = M := by
  unfold upM
  rw [upR_self]
theorem x_sub0 (x : Int32) : x - nI 0 = x := Int32.sub_zero x
theorem x_add0 (x : Int32) : x + nI 0 = x := Int32.add_zero x
theorem nwout (g : Nat) (x : Int32) : f_X1_numberWithout (nI g) x = some (nw g x) := by
  unfold f_X1_numberWithout nw
  by_cases h : x ≤ nI g
  · rw [if_pos h, if_neg (by rw [Int32.lt_iff_toInt_lt]; rw [Int32.le_iff_toInt_le] at h; omega)]
  · rw [if_neg h, if_pos (by rw [Int32.lt_iff_toInt_lt]; rw [Int32.le_iff_toInt_le] at h; omega)]
    rfl
theorem nw_le {g : Nat} {x : Int32} (h : x ≤ nI g) : nw g x = x := by
  unfold nw
  rw [if_neg (by rw [Int32.lt_iff_toInt_lt]; rw [Int32.le_iff_toInt_le] at h; omega)]
theorem nw_gt {g : Nat} {x : Int32} (h : ¬ x ≤ nI g) : nw g x = x - nI 1 := by
  unfold nw
  rw [if_pos (by rw [Int32.lt_iff_toInt_lt]; rw [Int32.le_iff_toInt_le] at h; omega)]
theorem lp_gap {n rw : Nat} (hn : n ≤ 10) (hr : rw < 8) : ∀ (k i F : Nat) (K : RK), i + k + 1 = n → K 12 0 = nI n → k < F → ∃ f : Nat → Int32, f_X1_closeGap_l2 rw F K (nI i) = some (upR K rw f) ∧ ∀ j, f j = if i ≤ j ∧ j < n - 1 then K rw (j + 1) else K rw j := by
  intro k
  induction k with
  | zero =>
    intro i F K hi h12 hF
    obtain ⟨F, rfl⟩ : ∃ q, F = q + 1 := ⟨F - 1, by omega⟩
    refine ⟨K rw, ?_, fun j => by rw [if_neg (by omega)]⟩
    rw [upR_self]
    unfold f_X1_closeGap_l2
    simp (disch := omega) only [h12, ↓pu_m1, pu_i0, pu_i1, pu_i2, pu_i3, pu_i4, pu_i5, pu_i6, pu_i7, pu_i8, pu_i9, pu_i10, pu_i11, pu_i12, pu_i13, pu_i14, pu_i15, pu_i16, pu_i17, pu_i18, pu_i19, pu_i20, pu_i21, pu_i22, pu_i30, pu_i33, pu_i34, pu_i36, pu_i40, pu_i42, pu_i48, pu_i49, pu_i50, pu_i57, pu_i59, pu_i60, pu_i62, pu_i86, pu_i94, pu_i99, pu_i103, pu_i106, pu_i108, pu_i109, pu_i111, pu_i113, pu_i119, pu_i126, pu_i999, pu_bnd, pu_nm, pu_gd, pu_bnd2, pu_bxl, pu_bxr, pu_inb, pu_at, pu_put, pu_us, pu_un, pu_Rs, pu_Rn, pu_upS, pu_M1, pu_M2, pu_MS, pu_MM, pu_RR, pu_H1, pu_H2, nI_add, pk_mul, pk_sub, nI_clamp, nI_eq, nI_leI, nI_ltI, pu_in, pu_of, pu_lay, pu_ll, pu_il, pu_h0, pu_h1, pu_h2, pu_nI_mI, pu_mI_nI, pu_mm, pu_nn, pu_nI_le_mI, pu_nI_lt_mI, pu_mI_lt, pu_mI_le, pu_inW, pu_inO, if_pos, if_neg, ↓reduceIte]
  | succ k ih =>
    intro i F K hi h12 hF
    obtain ⟨F, rfl⟩ : ∃ q, F = q + 1 := ⟨F - 1, by omega⟩
    have h12' : upR K rw (upd (K rw) i (K rw (i + 1))) 12 0 = nI n := by
      rw [pu_Rn (by omega)]
      exact h12
    obtain ⟨f, f1, f2⟩ := ih (i + 1) F _ (by omega) h12' (by omega)
    rw [pu_RR] at f1
    refine ⟨f, ?_, ?_⟩
    · unfold f_X1_closeGap_l2
      simp (disch := omega) only [h12, ↓pu_m1, pu_i0, pu_i1, pu_i2, pu_i3, pu_i4, pu_i5, pu_i6, pu_i7, pu_i8, pu_i9, pu_i10, pu_i11, pu_i12, pu_i13, pu_i14, pu_i15, pu_i16, pu_i17, pu_i18, pu_i19, pu_i20, pu_i21, pu_i22, pu_i30, pu_i33, pu_i34, pu_i36, pu_i40, pu_i42, pu_i48, pu_i49, pu_i50, pu_i57, pu_i59, pu_i60, pu_i62, pu_i86, pu_i94, pu_i99, pu_i103, pu_i106, pu_i108, pu_i109, pu_i111, pu_i113, pu_i119, pu_i126, pu_i999, pu_bnd, pu_nm, pu_gd, pu_bnd2, pu_bxl, pu_bxr, pu_inb, pu_at, pu_put, pu_us, pu_un, pu_Rs, pu_Rn, pu_upS, pu_M1, pu_M2, pu_MS, pu_MM, pu_RR, pu_H1, pu_H2, nI_add, pk_mul, pk_sub, nI_clamp, nI_eq, nI_leI, nI_ltI, pu_in, pu_of, pu_lay, pu_ll, pu_il, pu_h0, pu_h1, pu_h2, pu_nI_mI, pu_mI_nI, pu_mm, pu_nn, pu_nI_le_mI, pu_nI_lt_mI, pu_mI_lt, pu_mI_le, pu_inW, pu_inO, if_pos, if_neg, ↓reduceIte]
      exact f1
    · intro j
      rw [f2 j, pu_Rs]
      by_cases e : j = i
      · rw [if_neg (by omega), if_pos (by omega), pu_us e, e]
      · by_cases e2 : i + 1 ≤ j ∧ j < n - 1
        · rw [if_pos e2, if_pos (by omega), pu_un (by omega)]
        · rw [if_neg e2, if_neg (by omega), pu_un e]
theorem lp_gap0 {n rw g : Nat} (hn : n ≤ 10) (hr : rw < 8) (hg : g < n) {K : RK} (h12 : K 12 0 = nI n) : ∃ f : Nat → Int32, f_X1_closeGap K rw (nI g) = some (upR K rw f) ∧ ∀ j, j < n - 1 → f j = K rw (sg g j) := by
  obtain ⟨f, f1, f2⟩ := lp_gap hn hr (n - 1 - g) g fuelN K (by omega) h12 (by unfold fuelN; omega)
  refine ⟨f, f1, ?_⟩
  intro j hj
  rw [f2 j]
  unfold sg
  by_cases e : j < g
  · rw [if_neg (by omega), if_pos e]
  · rw [if_pos (by omega), if_neg e]
theorem lp_ren {m g : Nat} (hm : m < 10) : ∀ (k i F : Nat) (K : RK), i + k = m → K 12 0 = nI m → k < F → ∃ f4 f5 : Nat → Int32, f_X1_takeOut_l84 F K (nI g) (nI i) = some (upR (upR K 4 f4) 5 f5) ∧ (∀ j, f4 j = if i ≤ j ∧ j < m then nw g (K 4 j) else K 4 j) ∧ (∀ j, f5 j = if i ≤ j ∧ j < m then nw g (K 5 j) else K 5 j) := by
  intro k
  induction k with
  | zero =>
    intro i F K hi h12 hF
    obtain ⟨F, rfl⟩ : ∃ q, F = q + 1 := ⟨F - 1, by omega⟩
    refine ⟨K 4, K 5, ?_, fun j => by rw [if_neg (by omega)], fun j => by rw [if_neg (by omega)]⟩
    rw [upR_self, upR_self]
    unfold f_X1_takeOut_l84
    simp (disch := omega) only [h12, ↓pu_m1, pu_i0, pu_i1, pu_i2, pu_i3, pu_i4, pu_i5, pu_i6, pu_i7, pu_i8, pu_i9, pu_i10, pu_i11, pu_i12, pu_i13, pu_i14, pu_i15, pu_i16, pu_i17, pu_i18, pu_i19, pu_i20, pu_i21, pu_i22, pu_i30, pu_i33, pu_i34, pu_i36, pu_i40, pu_i42, pu_i48, pu_i49, pu_i50, pu_i57, pu_i59, pu_i60, pu_i62, pu_i86, pu_i94, pu_i99, pu_i103, pu_i106, pu_i108, pu_i109, pu_i111, pu_i113, pu_i119, pu_i126, pu_i999, pu_bnd, pu_nm, pu_gd, pu_bnd2, pu_bxl, pu_bxr, pu_inb, pu_at, pu_put, pu_us, pu_un, pu_Rs, pu_Rn, pu_upS, pu_M1, pu_M2, pu_MS, pu_MM, pu_RR, pu_H1, pu_H2, nI_add, pk_mul, pk_sub, nI_clamp, nI_eq, nI_leI, nI_ltI, pu_in, pu_of, pu_lay, pu_ll, pu_il, pu_h0, pu_h1, pu_h2, pu_nI_mI, pu_mI_nI, pu_mm, pu_nn, pu_nI_le_mI, pu_nI_lt_mI, pu_mI_lt, pu_mI_le, pu_inW, pu_inO, if_pos, if_neg, ↓reduceIte]
  | succ k ih =>
    intro i F K hi h12 hF
    obtain ⟨F, rfl⟩ : ∃ q, F = q + 1 := ⟨F - 1, by omega⟩
    have h12' : upR (upR K 4 (upd (K 4) i (nw g (K 4 i)))) 5 (upd (K 5) i (nw g (K 5 i))) 12 0 = nI m := by
      rw [pu_Rn (by omega), pu_Rn (by omega)]
      exact h12
    obtain ⟨f4, f5, f1, f2, f3⟩ := ih (i + 1) F _ (by omega) h12' (by omega)
    rw [upR_comm (K := upR K 4 (upd (K 4) i (nw g (K 4 i)))) (show 5 ≠ 4 by omega), pu_RR, pu_RR] at f1
    refine ⟨f4, f5, ?_, ?_, ?_⟩
    · unfold f_X1_takeOut_l84
      simp (disch := omega) only [h12, nwout, ↓pu_m1, pu_i0, pu_i1, pu_i2, pu_i3, pu_i4, pu_i5, pu_i6, pu_i7, pu_i8, pu_i9, pu_i10, pu_i11, pu_i12, pu_i13, pu_i14, pu_i15, pu_i16, pu_i17, pu_i18, pu_i19, pu_i20, pu_i21, pu_i22, pu_i30, pu_i33, pu_i34, pu_i36, pu_i40, pu_i42, pu_i48, pu_i49, pu_i50, pu_i57, pu_i59, pu_i60, pu_i62, pu_i86, pu_i94, pu_i99, pu_i103, pu_i106, pu_i108, pu_i109, pu_i111, pu_i113, pu_i119, pu_i126, pu_i999, pu_bnd, pu_nm, pu_gd, pu_bnd2, pu_bxl, pu_bxr, pu_inb, pu_at, pu_put, pu_us, pu_un, pu_Rs, pu_Rn, pu_upS, pu_M1, pu_M2, pu_MS, pu_MM, pu_RR, pu_H1, pu_H2, nI_add, pk_mul, pk_sub, nI_clamp, nI_eq, nI_leI, nI_ltI, pu_in, pu_of, pu_lay, pu_ll, pu_il, pu_h0, pu_h1, pu_h2, pu_nI_mI, pu_mI_nI, pu_mm, pu_nn, pu_nI_le_mI, pu_nI_lt_mI, pu_mI_lt, pu_mI_le, pu_inW, pu_inO, if_pos, if_neg, ↓reduceIte]
      exact f1
    · intro j
      rw [f2 j, pu_Rn (by omega), pu_Rs]
      by_cases e : j = i
      · rw [if_neg (by omega), if_pos (by omega), pu_us e, e]
      · by_cases e2 : i + 1 ≤ j ∧ j < m
        · rw [if_pos e2, if_pos (by omega), pu_un e]
        · rw [if_neg e2, if_neg (by omega), pu_un e]
    · intro j
      rw [f3 j, pu_Rs]
      by_cases e : j = i
      · rw [if_neg (by omega), if_pos (by omega), pu_us e, e]
      · by_cases e2 : i + 1 ≤ j ∧ j < m
        · rw [if_pos e2, if_pos (by omega), pu_un e]
        · rw [if_neg e2, if_neg (by omega), pu_un e]
theorem lp_renl {g : Nat} : ∀ (k i F : Nat) (K : RK), i + k = 30 → k < F → ∃ f : Nat → Int32, f_X3_renumberWithout_l2 F K (nI g) (nI i) = some (upR K 8 f) ∧ ∀ j, f j = if i ≤ j ∧ j < 30 then nw g (K 8 j) else K 8 j := by
  intro k
  induction k with
  | zero =>
    intro i F K hi hF
    obtain ⟨F, rfl⟩ : ∃ q, F = q + 1 := ⟨F - 1, by omega⟩
    refine ⟨K 8, ?_, fun j => by rw [if_neg (by omega)]⟩
    rw [upR_self]
    unfold f_X3_renumberWithout_l2
    simp (disch := omega) only [↓pu_m1, pu_i0, pu_i1, pu_i2, pu_i3, pu_i4, pu_i5, pu_i6, pu_i7, pu_i8, pu_i9, pu_i10, pu_i11, pu_i12, pu_i13, pu_i14, pu_i15, pu_i16, pu_i17, pu_i18, pu_i19, pu_i20, pu_i21, pu_i22, pu_i30, pu_i33, pu_i34, pu_i36, pu_i40, pu_i42, pu_i48, pu_i49, pu_i50, pu_i57, pu_i59, pu_i60, pu_i62, pu_i86, pu_i94, pu_i99, pu_i103, pu_i106, pu_i108, pu_i109, pu_i111, pu_i113, pu_i119, pu_i126, pu_i999, pu_bnd, pu_nm, pu_gd, pu_bnd2, pu_bxl, pu_bxr, pu_inb, pu_at, pu_put, pu_us, pu_un, pu_Rs, pu_Rn, pu_upS, pu_M1, pu_M2, pu_MS, pu_MM, pu_RR, pu_H1, pu_H2, nI_add, pk_mul, pk_sub, nI_clamp, nI_eq, nI_leI, nI_ltI, pu_in, pu_of, pu_lay, pu_ll, pu_il, pu_h0, pu_h1, pu_h2, pu_nI_mI, pu_mI_nI, pu_mm, pu_nn, pu_nI_le_mI, pu_nI_lt_mI, pu_mI_lt, pu_mI_le, pu_inW, pu_inO, if_pos, if_neg, ↓reduceIte]
  | succ k ih =>
    intro i F K hi hF
    obtain ⟨F, rfl⟩ : ∃ q, F = q + 1 := ⟨F - 1, by omega⟩
    obtain ⟨f, f1, f2⟩ := ih (i + 1) F (upR K 8 (upd (K 8) i (nw g (K 8 i)))) (by omega) (by omega)
    rw [pu_RR] at f1
    refine ⟨f, ?_, ?_⟩
    · unfold f_X3_renumberWithout_l2
      simp (disch := omega) only [nwout, ↓pu_m1, pu_i0, pu_i1, pu_i2, pu_i3, pu_i4, pu_i5, pu_i6, pu_i7, pu_i8, pu_i9, pu_i10, pu_i11, pu_i12, pu_i13, pu_i14, pu_i15, pu_i16, pu_i17, pu_i18, pu_i19, pu_i20, pu_i21, pu_i22, pu_i30, pu_i33, pu_i34, pu_i36, pu_i40, pu_i42, pu_i48, pu_i49, pu_i50, pu_i57, pu_i59, pu_i60, pu_i62, pu_i86, pu_i94, pu_i99, pu_i103, pu_i106, pu_i108, pu_i109, pu_i111, pu_i113, pu_i119, pu_i126, pu_i999, pu_bnd, pu_nm, pu_gd, pu_bnd2, pu_bxl, pu_bxr, pu_inb, pu_at, pu_put, pu_us, pu_un, pu_Rs, pu_Rn, pu_upS, pu_M1, pu_M2, pu_MS, pu_MM, pu_RR, pu_H1, pu_H2, nI_add, pk_mul, pk_sub, nI_clamp, nI_eq, nI_leI, nI_ltI, pu_in, pu_of, pu_lay, pu_ll, pu_il, pu_h0, pu_h1, pu_h2, pu_nI_mI, pu_mI_nI, pu_mm, pu_nn, pu_nI_le_mI, pu_nI_lt_mI, pu_mI_lt, pu_mI_le, pu_inW, pu_inO, if_pos, if_neg, ↓reduceIte]
      exact f1
    · intro j
      rw [f2 j, pu_Rs]
      by_cases e : j = i
      · rw [if_neg (by omega), if_pos (by omega), pu_us e, e]
      · by_cases e2 : i + 1 ≤ j ∧ j < 30
        · rw [if_pos e2, if_pos (by omega), pu_un e]
        · rw [if_neg e2, if_neg (by omega), pu_un e]
theorem lp_take {c L : Nat} (hc : c < 3) (hL : L ≤ 10) (x3 : Int32) : ∀ (k i F : Nat) (K : RK), i + k + 1 = L → k < F → ∃ f : Nat → Int32, f_X3_takeFirst_l25 F K (nI c) (nI L) x3 (nI i) = some (x3, upR (upR K 8 f) 9 (upd (K 9) c (nI (L - 1)))) ∧ ∀ j, f j = if c * 10 + i ≤ j ∧ j < c * 10 + L - 1 then K 8 (j + 1) else K 8 j := by
  intro k
  induction k with
  | zero =>
    intro i F K hi hF
    obtain ⟨F, rfl⟩ : ∃ q, F = q + 1 := ⟨F - 1, by omega⟩
    refine ⟨K 8, ?_, fun j => by rw [if_neg (by omega)]⟩
    rw [upR_self]
    unfold f_X3_takeFirst_l25
    simp (disch := omega) only [↓pu_m1, pu_i0, pu_i1, pu_i2, pu_i3, pu_i4, pu_i5, pu_i6, pu_i7, pu_i8, pu_i9, pu_i10, pu_i11, pu_i12, pu_i13, pu_i14, pu_i15, pu_i16, pu_i17, pu_i18, pu_i19, pu_i20, pu_i21, pu_i22, pu_i30, pu_i33, pu_i34, pu_i36, pu_i40, pu_i42, pu_i48, pu_i49, pu_i50, pu_i57, pu_i59, pu_i60, pu_i62, pu_i86, pu_i94, pu_i99, pu_i103, pu_i106, pu_i108, pu_i109, pu_i111, pu_i113, pu_i119, pu_i126, pu_i999, pu_bnd, pu_nm, pu_gd, pu_bnd2, pu_bxl, pu_bxr, pu_inb, pu_at, pu_put, pu_us, pu_un, pu_Rs, pu_Rn, pu_upS, pu_M1, pu_M2, pu_MS, pu_MM, pu_RR, pu_H1, pu_H2, nI_add, pk_mul, pk_sub, nI_clamp, nI_eq, nI_leI, nI_ltI, pu_in, pu_of, pu_lay, pu_ll, pu_il, pu_h0, pu_h1, pu_h2, pu_nI_mI, pu_mI_nI, pu_mm, pu_nn, pu_nI_le_mI, pu_nI_lt_mI, pu_mI_lt, pu_mI_le, pu_inW, pu_inO, if_pos, if_neg, ↓reduceIte]
  | succ k ih =>
    intro i F K hi hF
    obtain ⟨F, rfl⟩ : ∃ q, F = q + 1 := ⟨F - 1, by omega⟩
    obtain ⟨f, f1, f2⟩ := ih (i + 1) F (upR K 8 (upd (K 8) (c * 10 + i) (K 8 (c * 10 + (i + 1))))) (by omega) (by omega)
    rw [pu_RR, pu_Rn (by omega)] at f1
    refine ⟨f, ?_, ?_⟩
    · unfold f_X3_takeFirst_l25
      simp (disch := omega) only [f_X3_standingAt, ↓pu_m1, pu_i0, pu_i1, pu_i2, pu_i3, pu_i4, pu_i5, pu_i6, pu_i7, pu_i8, pu_i9, pu_i10, pu_i11, pu_i12, pu_i13, pu_i14, pu_i15, pu_i16, pu_i17, pu_i18, pu_i19, pu_i20, pu_i21, pu_i22, pu_i30, pu_i33, pu_i34, pu_i36, pu_i40, pu_i42, pu_i48, pu_i49, pu_i50, pu_i57, pu_i59, pu_i60, pu_i62, pu_i86, pu_i94, pu_i99, pu_i103, pu_i106, pu_i108, pu_i109, pu_i111, pu_i113, pu_i119, pu_i126, pu_i999, pu_bnd, pu_nm, pu_gd, pu_bnd2, pu_bxl, pu_bxr, pu_inb, pu_at, pu_put, pu_us, pu_un, pu_Rs, pu_Rn, pu_upS, pu_M1, pu_M2, pu_MS, pu_MM, pu_RR, pu_H1, pu_H2, nI_add, pk_mul, pk_sub, nI_clamp, nI_eq, nI_leI, nI_ltI, pu_in, pu_of, pu_lay, pu_ll, pu_il, pu_h0, pu_h1, pu_h2, pu_nI_mI, pu_mI_nI, pu_mm, pu_nn, pu_nI_le_mI, pu_nI_lt_mI, pu_mI_lt, pu_mI_le, pu_inW, pu_inO, if_pos, if_neg, ↓reduceIte]
      exact f1
    · intro j
      rw [f2 j, pu_Rs]
      by_cases e : j = c * 10 + i
      · rw [if_neg (by omega), if_pos (by omega), pu_us e, e, Nat.add_assoc]
      · by_cases e2 : c * 10 + (i + 1) ≤ j ∧ j < c * 10 + L - 1
        · rw [if_pos e2, if_pos (by omega), pu_un (by omega)]
        · rw [if_neg e2, if_neg (by omega), pu_un e]
def opR (M : MS) (x1 x3 : Int32) : Option (Int32 × MS) := bnd (f_X6_judges M x3 x1) (fun M2 => gd (inb 2 5) (nm (M2.1 2 (2 : Int32).toNatClampNeg) (fun v3 => bnd (f_X6_paysToChest M2 x3 v3) (fun M4 => gd (inb 3 5) (nm (M4.1 2 (3 : Int32).toNatClampNeg) (fun v5 => bnd (f_X6_lay M4 x3 2 v5) (fun M6 => bnd (f_X6_lay M6 x3 6 1) (fun M7 => gd (inb 0 5) (nm (M7.1 2 (0 : Int32).toNatClampNeg) (fun v8 => (if v8 ≤ 0 then f_X6_opens_b202 M7 else bnd (f_X6_of M7 x3 4) (fun r9 => (if r9 = x3 then f_X6_opens_b139 M7 r9 else gd (inb 4 5) (nm (M7.1 2 (4 : Int32).toNatClampNeg) (fun v10 => bnd (f_X6_paysToChest M7 r9 v10) (fun M11 => f_X6_opens_b139 M11 r9))))))))))))))))
theorem lp_open {c L : Nat} (hc : c < 3) (hL : L < 10) (x3 : Int32) : ∀ (k i F : Nat) (M : MS), i + k = L + 1 → 0 < i → M.1 0 (86 + 11 * c) = nI L → k < F → ∃ f : Nat → Int32, f_X6_opens_l30 F M (nI c) (nI (86 + 11 * c)) x3 (nI i) = opR (upM M 0 f) (nI c) x3 ∧ ∀ j, f j = if 86 + 11 * c + i ≤ j ∧ j < 86 + 11 * c + L + 1 then M.1 0 (j + 1) else M.1 0 j := by
  intro k
  induction k with
  | zero =>
    intro i F M hi h0 hw hF
    obtain ⟨F, rfl⟩ : ∃ q, F = q + 1 := ⟨F - 1, by omega⟩
    refine ⟨M.1 0, ?_, fun j => by rw [if_neg (by omega)]⟩
    rw [upM_self]
    rw [show f_X6_opens_l30 (F + 1) M (nI c) (nI (86 + 11 * c)) x3 (nI i) = _ from by unfold f_X6_opens_l30; rfl]
    rw [pu_inb (by omega) (by omega), pu_gd, pu_nm, nI_clamp (by omega), hw, if_pos (nI_lt (by omega) (by omega))]
    rfl
  | succ k ih =>
    intro i F M hi h0 hw hF
    obtain ⟨F, rfl⟩ : ∃ q, F = q + 1 := ⟨F - 1, by omega⟩
    obtain ⟨f, f1, f2⟩ := ih (i + 1) F (upM M 0 (upd (M.1 0) (86 + 11 * c + i) (M.1 0 (86 + 11 * c + i + 1)))) (by omega) (by omega) (by rw [pu_M1, pu_Rs, pu_un (by omega)]; exact hw) (by omega)
    rw [pu_MM] at f1
    refine ⟨f, ?_, ?_⟩
    · rw [show f_X6_opens_l30 (F + 1) M (nI c) (nI (86 + 11 * c)) x3 (nI i) = _ from by unfold f_X6_opens_l30; rfl]
      rw [pu_inb (by omega) (by omega), pu_gd, pu_nm, nI_clamp (by omega), hw, if_neg (nI_nlt (by omega) (by omega))]
      simp (disch := omega) only [↓pu_m1, pu_i0, pu_i1, pu_i2, pu_i3, pu_i4, pu_i5, pu_i6, pu_i7, pu_i8, pu_i9, pu_i10, pu_i11, pu_i12, pu_i13, pu_i14, pu_i15, pu_i16, pu_i17, pu_i18, pu_i19, pu_i20, pu_i21, pu_i22, pu_i30, pu_i33, pu_i34, pu_i36, pu_i40, pu_i42, pu_i48, pu_i49, pu_i50, pu_i57, pu_i59, pu_i60, pu_i62, pu_i86, pu_i94, pu_i99, pu_i103, pu_i106, pu_i108, pu_i109, pu_i111, pu_i113, pu_i119, pu_i126, pu_i999, pu_bnd, pu_nm, pu_gd, pu_bnd2, pu_bxl, pu_bxr, pu_inb, pu_at, pu_put, pu_us, pu_un, pu_Rs, pu_Rn, pu_upS, pu_M1, pu_M2, pu_MS, pu_MM, pu_RR, pu_H1, pu_H2, nI_add, pk_mul, pk_sub, nI_clamp, nI_eq, nI_leI, nI_ltI, pu_in, pu_of, pu_lay, pu_ll, pu_il, pu_h0, pu_h1, pu_h2, pu_nI_mI, pu_mI_nI, pu_mm, pu_nn, pu_nI_le_mI, pu_nI_lt_mI, pu_mI_lt, pu_mI_le, pu_inW, pu_inO, if_pos, if_neg, ↓reduceIte]
      exact f1
    · intro j
      rw [f2 j, pu_M1, pu_Rs]
      by_cases e : j = 86 + 11 * c + i
      · rw [if_neg (by omega), if_pos (by omega), pu_us e, e]
      · by_cases e2 : 86 + 11 * c + (i + 1) ≤ j ∧ j < 86 + 11 * c + L + 1
        · rw [if_pos e2, if_pos (by omega), pu_un (by omega)]
        · rw [if_neg e2, if_neg (by omega), pu_un e]
def coR (M : MS) (x1 x2 x3 x5 : Int32) : Option (Int32 × MS) := bnd (f_X6_lay M x5 0 x1) (fun M1 => bnd (f_X6_lay M1 x5 1 x3) (fun M2 => bnd (f_X6_lay M2 x5 3 x2) (fun M3 => bnd (f_X6_lay M3 x5 4 x5) (fun M4 => gd (inb 1 952) (nm (M4.1 0 (1 : Int32).toNatClampNeg) (fun v5 => gd (inb 1 952) (nm (upM M4 0 (upd (M4.1 0) (1 : Int32).toNatClampNeg (v5 + 1))) (fun M6 => gd (inb 4 952) (nm (M6.1 0 (4 : Int32).toNatClampNeg) (fun v7 => gd (inb 4 952) (nm (upM M6 0 (upd (M6.1 0) (4 : Int32).toNatClampNeg (v7 + x3))) (fun M8 => gd (inb 5 952) (nm (M8.1 0 (5 : Int32).toNatClampNeg) (fun v9 => gd (inb 5 952) (nm (upM M8 0 (upd (M8.1 0) (5 : Int32).toNatClampNeg (v9 + x2))) (fun M10 => some (x5, M10)))))))))))))))))
theorem lp_come {n : Nat} (hn : n < 10) (x1 x2 x3 : Int32) : ∀ (k i F : Nat) (M : MS), i + k = 7 → k < F → ∃ f : Nat → Int32, f_X6_come_l85 F M x1 x2 x3 (nI n) (nI i) = coR (upM M 0 f) x1 x2 x3 (nI n) ∧ ∀ j, f j = if 16 + 7 * n + i ≤ j ∧ j < 16 + 7 * n + 7 then nI 0 else M.1 0 j := by
  intro k
  induction k with
  | zero =>
    intro i F M hi hF
    obtain ⟨F, rfl⟩ : ∃ q, F = q + 1 := ⟨F - 1, by omega⟩
    refine ⟨M.1 0, ?_, fun j => by rw [if_neg (by omega)]⟩
    rw [upM_self]
    rw [show f_X6_come_l85 (F + 1) M x1 x2 x3 (nI n) (nI i) = _ from by unfold f_X6_come_l85; rfl]
    rw [if_pos (show (7 : Int32) ≤ nI i from nI_le (a := 7) (b := i) (by omega) (by omega))]
    rfl
  | succ k ih =>
    intro i F M hi hF
    obtain ⟨F, rfl⟩ : ∃ q, F = q + 1 := ⟨F - 1, by omega⟩
    obtain ⟨f, f1, f2⟩ := ih (i + 1) F (upM M 0 (upd (M.1 0) (16 + 7 * n + i) (nI 0))) (by omega) (by omega)
    rw [pu_MM] at f1
    refine ⟨f, ?_, ?_⟩
    · rw [show f_X6_come_l85 (F + 1) M x1 x2 x3 (nI n) (nI i) = _ from by unfold f_X6_come_l85; rfl]
      rw [if_neg (show ¬ (7 : Int32) ≤ nI i from nI_ge (a := i) (b := 7) (by omega) (by omega))]
      simp (disch := omega) only [↓pu_m1, pu_i0, pu_i1, pu_i2, pu_i3, pu_i4, pu_i5, pu_i6, pu_i7, pu_i8, pu_i9, pu_i10, pu_i11, pu_i12, pu_i13, pu_i14, pu_i15, pu_i16, pu_i17, pu_i18, pu_i19, pu_i20, pu_i21, pu_i22, pu_i30, pu_i33, pu_i34, pu_i36, pu_i40, pu_i42, pu_i48, pu_i49, pu_i50, pu_i57, pu_i59, pu_i60, pu_i62, pu_i86, pu_i94, pu_i99, pu_i103, pu_i106, pu_i108, pu_i109, pu_i111, pu_i113, pu_i119, pu_i126, pu_i999, pu_bnd, pu_nm, pu_gd, pu_bnd2, pu_bxl, pu_bxr, pu_inb, pu_at, pu_put, pu_us, pu_un, pu_Rs, pu_Rn, pu_upS, pu_M1, pu_M2, pu_MS, pu_MM, pu_RR, pu_H1, pu_H2, nI_add, pk_mul, pk_sub, nI_clamp, nI_eq, nI_leI, nI_ltI, pu_in, pu_of, pu_lay, pu_ll, pu_il, pu_h0, pu_h1, pu_h2, pu_nI_mI, pu_mI_nI, pu_mm, pu_nn, pu_nI_le_mI, pu_nI_lt_mI, pu_mI_lt, pu_mI_le, pu_inW, pu_inO, if_pos, if_neg, ↓reduceIte]
      exact f1
    · intro j
      rw [f2 j, pu_M1, pu_Rs]
      by_cases e : j = 16 + 7 * n + i
      · rw [if_neg (by omega), if_pos (by omega), pu_us e]
      · by_cases e2 : 16 + 7 * n + (i + 1) ≤ j ∧ j < 16 + 7 * n + 7
        · rw [if_pos e2, if_pos (by omega)]
        · rw [if_neg e2, if_neg (by omega), pu_un e]
theorem lp_lv1 {m g : Nat} (hm : m < 10) (x4 : Int32) : ∀ (k i F : Nat) (M : MS), i + k = 7 * m → M.1 0 1 = nI m → k < F → ∃ f : Nat → Int32, f_X6_leave_l138 F M (nI g) x4 (nI i) = f_X6_leave_l184 fuelN (upM M 0 f) (nI g) x4 (nI 0) ∧ ∀ j, f j = if 16 + i ≤ j ∧ j < 16 + 7 * m then M.1 0 (j + 7) else M.1 0 j := by
  intro k
  induction k with
  | zero =>
    intro i F M hi hw hF
    obtain ⟨F, rfl⟩ : ∃ q, F = q + 1 := ⟨F - 1, by omega⟩
    refine ⟨M.1 0, ?_, fun j => by rw [if_neg (by omega)]⟩
    rw [upM_self]
    rw [show f_X6_leave_l138 (F + 1) M (nI g) x4 (nI i) = _ from by unfold f_X6_leave_l138; rfl]
    simp (disch := omega) only [hw, ↓pu_m1, pu_i0, pu_i1, pu_i2, pu_i3, pu_i4, pu_i5, pu_i6, pu_i7, pu_i8, pu_i9, pu_i10, pu_i11, pu_i12, pu_i13, pu_i14, pu_i15, pu_i16, pu_i17, pu_i18, pu_i19, pu_i20, pu_i21, pu_i22, pu_i30, pu_i33, pu_i34, pu_i36, pu_i40, pu_i42, pu_i48, pu_i49, pu_i50, pu_i57, pu_i59, pu_i60, pu_i62, pu_i86, pu_i94, pu_i99, pu_i103, pu_i106, pu_i108, pu_i109, pu_i111, pu_i113, pu_i119, pu_i126, pu_i999, pu_bnd, pu_nm, pu_gd, pu_bnd2, pu_bxl, pu_bxr, pu_inb, pu_at, pu_put, pu_us, pu_un, pu_Rs, pu_Rn, pu_upS, pu_M1, pu_M2, pu_MS, pu_MM, pu_RR, pu_H1, pu_H2, nI_add, pk_mul, pk_sub, nI_clamp, nI_eq, nI_leI, nI_ltI, pu_in, pu_of, pu_lay, pu_ll, pu_il, pu_h0, pu_h1, pu_h2, pu_nI_mI, pu_mI_nI, pu_mm, pu_nn, pu_nI_le_mI, pu_nI_lt_mI, pu_mI_lt, pu_mI_le, pu_inW, pu_inO, if_pos, if_neg, ↓reduceIte]
  | succ k ih =>
    intro i F M hi hw hF
    obtain ⟨F, rfl⟩ : ∃ q, F = q + 1 := ⟨F - 1, by omega⟩
    obtain ⟨f, f1, f2⟩ := ih (i + 1) F (upM M 0 (upd (M.1 0) (16 + i) (M.1 0 (16 + i + 7)))) (by omega) (by rw [pu_M1, pu_Rs, pu_un (by omega)]; exact hw) (by omega)
    rw [pu_MM] at f1
    refine ⟨f, ?_, ?_⟩
    · rw [show f_X6_leave_l138 (F + 1) M (nI g) x4 (nI i) = _ from by unfold f_X6_leave_l138; rfl]
      simp (disch := omega) only [hw, ↓pu_m1, pu_i0, pu_i1, pu_i2, pu_i3, pu_i4, pu_i5, pu_i6, pu_i7, pu_i8, pu_i9, pu_i10, pu_i11, pu_i12, pu_i13, pu_i14, pu_i15, pu_i16, pu_i17, pu_i18, pu_i19, pu_i20, pu_i21, pu_i22, pu_i30, pu_i33, pu_i34, pu_i36, pu_i40, pu_i42, pu_i48, pu_i49, pu_i50, pu_i57, pu_i59, pu_i60, pu_i62, pu_i86, pu_i94, pu_i99, pu_i103, pu_i106, pu_i108, pu_i109, pu_i111, pu_i113, pu_i119, pu_i126, pu_i999, pu_bnd, pu_nm, pu_gd, pu_bnd2, pu_bxl, pu_bxr, pu_inb, pu_at, pu_put, pu_us, pu_un, pu_Rs, pu_Rn, pu_upS, pu_M1, pu_M2, pu_MS, pu_MM, pu_RR, pu_H1, pu_H2, nI_add, pk_mul, pk_sub, nI_clamp, nI_eq, nI_leI, nI_ltI, pu_in, pu_of, pu_lay, pu_ll, pu_il, pu_h0, pu_h1, pu_h2, pu_nI_mI, pu_mI_nI, pu_mm, pu_nn, pu_nI_le_mI, pu_nI_lt_mI, pu_mI_lt, pu_mI_le, pu_inW, pu_inO, if_pos, if_neg, ↓reduceIte]
      exact f1
    · intro j
      rw [f2 j, pu_M1, pu_Rs]
      by_cases e : j = 16 + i
      · rw [if_neg (by omega), if_pos (by omega), pu_us e, e]
      · by_cases e2 : 16 + (i + 1) ≤ j ∧ j < 16 + 7 * m
        · rw [if_pos e2, if_pos (by omega), pu_un (by omega)]
        · rw [if_neg e2, if_neg (by omega), pu_un e]
theorem lp_lv2 {m g : Nat} (hm : m < 10) (x4 : Int32) : ∀ (k i F : Nat) (M : MS), i + k = m → M.1 0 1 = nI m → k < F → ∃ f : Nat → Int32, f_X6_leave_l184 F M (nI g) x4 (nI i) = f_X6_leave_l241 fuelN (upM M 0 f) (nI g) x4 (nI 0) ∧ ∀ j, f j = if 16 + 7 * i ≤ j ∧ j < 16 + 7 * m ∧ j % 7 = 6 then nw g (M.1 0 j) else M.1 0 j := by
  intro k
  induction k with
  | zero =>
    intro i F M hi hw hF
    obtain ⟨F, rfl⟩ : ∃ q, F = q + 1 := ⟨F - 1, by omega⟩
    refine ⟨M.1 0, ?_, fun j => by rw [if_neg (by omega)]⟩
    rw [upM_self]
    rw [show f_X6_leave_l184 (F + 1) M (nI g) x4 (nI i) = _ from by unfold f_X6_leave_l184; rfl]
    simp (disch := omega) only [hw, ↓pu_m1, pu_i0, pu_i1, pu_i2, pu_i3, pu_i4, pu_i5, pu_i6, pu_i7, pu_i8, pu_i9, pu_i10, pu_i11, pu_i12, pu_i13, pu_i14, pu_i15, pu_i16, pu_i17, pu_i18, pu_i19, pu_i20, pu_i21, pu_i22, pu_i30, pu_i33, pu_i34, pu_i36, pu_i40, pu_i42, pu_i48, pu_i49, pu_i50, pu_i57, pu_i59, pu_i60, pu_i62, pu_i86, pu_i94, pu_i99, pu_i103, pu_i106, pu_i108, pu_i109, pu_i111, pu_i113, pu_i119, pu_i126, pu_i999, pu_bnd, pu_nm, pu_gd, pu_bnd2, pu_bxl, pu_bxr, pu_inb, pu_at, pu_put, pu_us, pu_un, pu_Rs, pu_Rn, pu_upS, pu_M1, pu_M2, pu_MS, pu_MM, pu_RR, pu_H1, pu_H2, nI_add, pk_mul, pk_sub, nI_clamp, nI_eq, nI_leI, nI_ltI, pu_in, pu_of, pu_lay, pu_ll, pu_il, pu_h0, pu_h1, pu_h2, pu_nI_mI, pu_mI_nI, pu_mm, pu_nn, pu_nI_le_mI, pu_nI_lt_mI, pu_mI_lt, pu_mI_le, pu_inW, pu_inO, if_pos, if_neg, ↓reduceIte]
  | succ k ih =>
    intro i F M hi hw hF
    obtain ⟨F, rfl⟩ : ∃ q, F = q + 1 := ⟨F - 1, by omega⟩
    obtain ⟨f, f1, f2⟩ := ih (i + 1) F (upM M 0 (upd (M.1 0) (16 + 7 * i + 4) (nw g (M.1 0 (16 + 7 * i + 4))))) (by omega) (by rw [pu_M1, pu_Rs, pu_un (by omega)]; exact hw) (by omega)
    rw [pu_MM] at f1
    refine ⟨f, ?_, ?_⟩
    · rw [show f_X6_leave_l184 (F + 1) M (nI g) x4 (nI i) = _ from by unfold f_X6_leave_l184; rfl]
      by_cases q : M.1 0 (16 + 7 * i + 4) ≤ nI g
      · rw [nw_le q] at f1
        simp (disch := omega) only [hw, q, f_X6_leave_b229, ↓pu_m1, pu_i0, pu_i1, pu_i2, pu_i3, pu_i4, pu_i5, pu_i6, pu_i7, pu_i8, pu_i9, pu_i10, pu_i11, pu_i12, pu_i13, pu_i14, pu_i15, pu_i16, pu_i17, pu_i18, pu_i19, pu_i20, pu_i21, pu_i22, pu_i30, pu_i33, pu_i34, pu_i36, pu_i40, pu_i42, pu_i48, pu_i49, pu_i50, pu_i57, pu_i59, pu_i60, pu_i62, pu_i86, pu_i94, pu_i99, pu_i103, pu_i106, pu_i108, pu_i109, pu_i111, pu_i113, pu_i119, pu_i126, pu_i999, pu_bnd, pu_nm, pu_gd, pu_bnd2, pu_bxl, pu_bxr, pu_inb, pu_at, pu_put, pu_us, pu_un, pu_Rs, pu_Rn, pu_upS, pu_M1, pu_M2, pu_MS, pu_MM, pu_RR, pu_H1, pu_H2, nI_add, pk_mul, pk_sub, nI_clamp, nI_eq, nI_leI, nI_ltI, pu_in, pu_of, pu_lay, pu_ll, pu_il, pu_h0, pu_h1, pu_h2, pu_nI_mI, pu_mI_nI, pu_mm, pu_nn, pu_nI_le_mI, pu_nI_lt_mI, pu_mI_lt, pu_mI_le, pu_inW, pu_inO, if_pos, if_neg, ↓reduceIte]
        exact f1
      · rw [nw_gt q] at f1
        simp (disch := omega) only [hw, q, f_X6_leave_b229, ↓pu_m1, pu_i0, pu_i1, pu_i2, pu_i3, pu_i4, pu_i5, pu_i6, pu_i7, pu_i8, pu_i9, pu_i10, pu_i11, pu_i12, pu_i13, pu_i14, pu_i15, pu_i16, pu_i17, pu_i18, pu_i19, pu_i20, pu_i21, pu_i22, pu_i30, pu_i33, pu_i34, pu_i36, pu_i40, pu_i42, pu_i48, pu_i49, pu_i50, pu_i57, pu_i59, pu_i60, pu_i62, pu_i86, pu_i94, pu_i99, pu_i103, pu_i106, pu_i108, pu_i109, pu_i111, pu_i113, pu_i119, pu_i126, pu_i999, pu_bnd, pu_nm, pu_gd, pu_bnd2, pu_bxl, pu_bxr, pu_inb, pu_at, pu_put, pu_us, pu_un, pu_Rs, pu_Rn, pu_upS, pu_M1, pu_M2, pu_MS, pu_MM, pu_RR, pu_H1, pu_H2, nI_add, pk_mul, pk_sub, nI_clamp, nI_eq, nI_leI, nI_ltI, pu_in, pu_of, pu_lay, pu_ll, pu_il, pu_h0, pu_h1, pu_h2, pu_nI_mI, pu_mI_nI, pu_mm, pu_nn, pu_nI_le_mI, pu_nI_lt_mI, pu_mI_lt, pu_mI_le, pu_inW, pu_inO, if_pos, if_neg, ↓reduceIte]
        exact f1
    · intro j
      rw [f2 j, pu_M1, pu_Rs]
      by_cases e : j = 16 + 7 * i + 4
      · rw [if_neg (by omega), if_pos (by omega), pu_us e, e]
      · by_cases e2 : 16 + 7 * (i + 1) ≤ j ∧ j < 16 + 7 * m ∧ j % 7 = 6
        · rw [if_pos e2, if_pos (by omega), pu_un (by omega)]
        · rw [if_neg e2, if_neg (by omega), pu_un e]
theorem lp_lv3 {g : Nat} (x4 : Int32) : ∀ (k i F : Nat) (M : MS), i + k = 33 → k < F → ∃ f : Nat → Int32, f_X6_leave_l241 F M (nI g) x4 (nI i) = some (x4, upM M 0 f) ∧ ∀ j, f j = if 86 + i ≤ j ∧ j < 119 ∧ (j - 86) % 11 ≠ 0 then nw g (M.1 0 j) else M.1 0 j := by
  intro k
  induction k with
  | zero =>
    intro i F M hi hF
    obtain ⟨F, rfl⟩ : ∃ q, F = q + 1 := ⟨F - 1, by omega⟩
    refine ⟨M.1 0, ?_, fun j => by rw [if_neg (by omega)]⟩
    rw [upM_self]
    rw [show f_X6_leave_l241 (F + 1) M (nI g) x4 (nI i) = _ from by unfold f_X6_leave_l241; rfl]
    rw [if_pos (show (33 : Int32) ≤ nI i from nI_le (a := 33) (b := i) (by omega) (by omega))]
  | succ k ih =>
    intro i F M hi hF
    obtain ⟨F, rfl⟩ : ∃ q, F = q + 1 := ⟨F - 1, by omega⟩
    have em : nI i - nI i / (11 : Int32) * (11 : Int32) = nI (i % 11) := pk_rem (a := i) (d := 11) (by omega) (by omega) (by omega)
    have e1 : ∃ x : Int32, f_X6_leave_l241 (F + 1) M (nI g) x4 (nI i) = f_X6_leave_l241 F (upM M 0 (upd (M.1 0) (86 + i) x)) (nI g) x4 (nI (i + 1)) ∧ x = if i % 11 ≠ 0 then nw g (M.1 0 (86 + i)) else M.1 0 (86 + i) := by
      rw [show f_X6_leave_l241 (F + 1) M (nI g) x4 (nI i) = _ from by unfold f_X6_leave_l241; rfl]
      rw [if_neg (show ¬ (33 : Int32) ≤ nI i from nI_ge (a := i) (b := 33) (by omega) (by omega)), em]
      by_cases q : i % 11 = 0
      · refine ⟨M.1 0 (86 + i), ?_, by rw [if_neg (by omega)]⟩
        rw [q]
        simp (disch := omega) only [f_X6_leave_b274, f_X6_leave_b275, f_X6_leave_b298, x_sub0, ↓pu_m1, pu_i0, pu_i1, pu_i2, pu_i3, pu_i4, pu_i5, pu_i6, pu_i7, pu_i8, pu_i9, pu_i10, pu_i11, pu_i12, pu_i13, pu_i14, pu_i15, pu_i16, pu_i17, pu_i18, pu_i19, pu_i20, pu_i21, pu_i22, pu_i30, pu_i33, pu_i34, pu_i36, pu_i40, pu_i42, pu_i48, pu_i49, pu_i50, pu_i57, pu_i59, pu_i60, pu_i62, pu_i86, pu_i94, pu_i99, pu_i103, pu_i106, pu_i108, pu_i109, pu_i111, pu_i113, pu_i119, pu_i126, pu_i999, pu_bnd, pu_nm, pu_gd, pu_bnd2, pu_bxl, pu_bxr, pu_inb, pu_at, pu_put, pu_us, pu_un, pu_Rs, pu_Rn, pu_upS, pu_M1, pu_M2, pu_MS, pu_MM, pu_RR, pu_H1, pu_H2, nI_add, pk_mul, pk_sub, nI_clamp, nI_eq, nI_leI, nI_ltI, pu_in, pu_of, pu_lay, pu_ll, pu_il, pu_h0, pu_h1, pu_h2, pu_nI_mI, pu_mI_nI, pu_mm, pu_nn, pu_nI_le_mI, pu_nI_lt_mI, pu_mI_lt, pu_mI_le, pu_inW, pu_inO, if_pos, if_neg, ↓reduceIte]
      · by_cases q2 : M.1 0 (86 + i) ≤ nI g
        · refine ⟨M.1 0 (86 + i), ?_, by rw [if_pos q, nw_le q2]⟩
          simp (disch := omega) only [f_X6_leave_b274, f_X6_leave_b275, f_X6_leave_b298, x_sub0, q2, ↓pu_m1, pu_i0, pu_i1, pu_i2, pu_i3, pu_i4, pu_i5, pu_i6, pu_i7, pu_i8, pu_i9, pu_i10, pu_i11, pu_i12, pu_i13, pu_i14, pu_i15, pu_i16, pu_i17, pu_i18, pu_i19, pu_i20, pu_i21, pu_i22, pu_i30, pu_i33, pu_i34, pu_i36, pu_i40, pu_i42, pu_i48, pu_i49, pu_i50, pu_i57, pu_i59, pu_i60, pu_i62, pu_i86, pu_i94, pu_i99, pu_i103, pu_i106, pu_i108, pu_i109, pu_i111, pu_i113, pu_i119, pu_i126, pu_i999, pu_bnd, pu_nm, pu_gd, pu_bnd2, pu_bxl, pu_bxr, pu_inb, pu_at, pu_put, pu_us, pu_un, pu_Rs, pu_Rn, pu_upS, pu_M1, pu_M2, pu_MS, pu_MM, pu_RR, pu_H1, pu_H2, nI_add, pk_mul, pk_sub, nI_clamp, nI_eq, nI_leI, nI_ltI, pu_in, pu_of, pu_lay, pu_ll, pu_il, pu_h0, pu_h1, pu_h2, pu_nI_mI, pu_mI_nI, pu_mm, pu_nn, pu_nI_le_mI, pu_nI_lt_mI, pu_mI_lt, pu_mI_le, pu_inW, pu_inO, if_pos, if_neg, ↓reduceIte]
        · refine ⟨M.1 0 (86 + i) - nI 1, ?_, by rw [if_pos q, nw_gt q2]⟩
          simp (disch := omega) only [f_X6_leave_b274, f_X6_leave_b275, f_X6_leave_b298, x_sub0, q2, ↓pu_m1, pu_i0, pu_i1, pu_i2, pu_i3, pu_i4, pu_i5, pu_i6, pu_i7, pu_i8, pu_i9, pu_i10, pu_i11, pu_i12, pu_i13, pu_i14, pu_i15, pu_i16, pu_i17, pu_i18, pu_i19, pu_i20, pu_i21, pu_i22, pu_i30, pu_i33, pu_i34, pu_i36, pu_i40, pu_i42, pu_i48, pu_i49, pu_i50, pu_i57, pu_i59, pu_i60, pu_i62, pu_i86, pu_i94, pu_i99, pu_i103, pu_i106, pu_i108, pu_i109, pu_i111, pu_i113, pu_i119, pu_i126, pu_i999, pu_bnd, pu_nm, pu_gd, pu_bnd2, pu_bxl, pu_bxr, pu_inb, pu_at, pu_put, pu_us, pu_un, pu_Rs, pu_Rn, pu_upS, pu_M1, pu_M2, pu_MS, pu_MM, pu_RR, pu_H1, pu_H2, nI_add, pk_mul, pk_sub, nI_clamp, nI_eq, nI_leI, nI_ltI, pu_in, pu_of, pu_lay, pu_ll, pu_il, pu_h0, pu_h1, pu_h2, pu_nI_mI, pu_mI_nI, pu_mm, pu_nn, pu_nI_le_mI, pu_nI_lt_mI, pu_mI_lt, pu_mI_le, pu_inW, pu_inO, if_pos, if_neg, ↓reduceIte]
    obtain ⟨x, e1, ex⟩ := e1
    obtain ⟨f, f1, f2⟩ := ih (i + 1) F (upM M 0 (upd (M.1 0) (86 + i) x)) (by omega) (by omega)
    rw [pu_MM] at f1
    refine ⟨f, by rw [e1, f1], ?_⟩
    intro j
    rw [f2 j, pu_M1, pu_Rs]
    by_cases e : j = 86 + i
    · rw [if_neg (by omega), pu_us e, ex]
      by_cases q : i % 11 = 0
      · rw [if_neg (by omega), if_neg (by omega), e]
      · rw [if_pos q, if_pos (by omega), e]
    · by_cases e2 : 86 + (i + 1) ≤ j ∧ j < 119 ∧ (j - 86) % 11 ≠ 0
      · rw [if_pos e2, if_pos (by omega), pu_un (by omega)]
      · rw [if_neg e2, if_neg (by omega), pu_un e]
theorem lp_copy {a b : Nat} (ha : a ≤ 7) (hb : b ≤ 7) (hab : a ≠ b) : ∀ (k i F : Nat) (M : MS), i + k = 119 → k < F → ∃ f : Nat → Int32, f_X6_copies_l2 F M (nI a) (nI b) (nI i) = some (upM M 0 f) ∧ ∀ j, f j = if 119 * b + i ≤ j ∧ j < 119 * b + 119 then M.1 0 (119 * a + (j - 119 * b)) else M.1 0 j := by
  intro k
  induction k with
  | zero =>
    intro i F M hi hF
    obtain ⟨F, rfl⟩ : ∃ q, F = q + 1 := ⟨F - 1, by omega⟩
    refine ⟨M.1 0, ?_, fun j => by rw [if_neg (by omega)]⟩
    rw [upM_self]
    unfold f_X6_copies_l2
    simp (disch := omega) only [↓pu_m1, pu_i0, pu_i1, pu_i2, pu_i3, pu_i4, pu_i5, pu_i6, pu_i7, pu_i8, pu_i9, pu_i10, pu_i11, pu_i12, pu_i13, pu_i14, pu_i15, pu_i16, pu_i17, pu_i18, pu_i19, pu_i20, pu_i21, pu_i22, pu_i30, pu_i33, pu_i34, pu_i36, pu_i40, pu_i42, pu_i48, pu_i49, pu_i50, pu_i57, pu_i59, pu_i60, pu_i62, pu_i86, pu_i94, pu_i99, pu_i103, pu_i106, pu_i108, pu_i109, pu_i111, pu_i113, pu_i119, pu_i126, pu_i999, pu_bnd, pu_nm, pu_gd, pu_bnd2, pu_bxl, pu_bxr, pu_inb, pu_at, pu_put, pu_us, pu_un, pu_Rs, pu_Rn, pu_upS, pu_M1, pu_M2, pu_MS, pu_MM, pu_RR, pu_H1, pu_H2, nI_add, pk_mul, pk_sub, nI_clamp, nI_eq, nI_leI, nI_ltI, pu_in, pu_of, pu_lay, pu_ll, pu_il, pu_h0, pu_h1, pu_h2, pu_nI_mI, pu_mI_nI, pu_mm, pu_nn, pu_nI_le_mI, pu_nI_lt_mI, pu_mI_lt, pu_mI_le, pu_inW, pu_inO, if_pos, if_neg, ↓reduceIte]
  | succ k ih =>
    intro i F M hi hF
    obtain ⟨F, rfl⟩ : ∃ q, F = q + 1 := ⟨F - 1, by omega⟩
    obtain ⟨f, f1, f2⟩ := ih (i + 1) F (upM M 0 (upd (M.1 0) (119 * b + i) (M.1 0 (119 * a + i)))) (by omega) (by omega)
    rw [pu_MM] at f1
    refine ⟨f, ?_, ?_⟩
    · unfold f_X6_copies_l2
      simp (disch := omega) only [↓pu_m1, pu_i0, pu_i1, pu_i2, pu_i3, pu_i4, pu_i5, pu_i6, pu_i7, pu_i8, pu_i9, pu_i10, pu_i11, pu_i12, pu_i13, pu_i14, pu_i15, pu_i16, pu_i17, pu_i18, pu_i19, pu_i20, pu_i21, pu_i22, pu_i30, pu_i33, pu_i34, pu_i36, pu_i40, pu_i42, pu_i48, pu_i49, pu_i50, pu_i57, pu_i59, pu_i60, pu_i62, pu_i86, pu_i94, pu_i99, pu_i103, pu_i106, pu_i108, pu_i109, pu_i111, pu_i113, pu_i119, pu_i126, pu_i999, pu_bnd, pu_nm, pu_gd, pu_bnd2, pu_bxl, pu_bxr, pu_inb, pu_at, pu_put, pu_us, pu_un, pu_Rs, pu_Rn, pu_upS, pu_M1, pu_M2, pu_MS, pu_MM, pu_RR, pu_H1, pu_H2, nI_add, pk_mul, pk_sub, nI_clamp, nI_eq, nI_leI, nI_ltI, pu_in, pu_of, pu_lay, pu_ll, pu_il, pu_h0, pu_h1, pu_h2, pu_nI_mI, pu_mI_nI, pu_mm, pu_nn, pu_nI_le_mI, pu_nI_lt_mI, pu_mI_lt, pu_mI_le, pu_inW, pu_inO, if_pos, if_neg, ↓reduceIte]
      exact f1
    · intro j
      rw [f2 j, pu_M1, pu_Rs]
      by_cases e : j = 119 * b + i
      · rw [if_neg (by omega), if_pos (by omega), pu_us e, e, show 119 * b + i - 119 * b = i from by omega]
      · by_cases e2 : 119 * b + (i + 1) ≤ j ∧ j < 119 * b + 119
        · rw [if_pos e2, if_pos (by omega), pu_un (by omega)]
        · rw [if_neg e2, if_neg (by omega), pu_un e]
theorem lp_copies {a b : Nat} (ha : a ≤ 7) (hb : b ≤ 7) (hab : a ≠ b) (M : MS) : ∃ f : Nat → Int32, f_X6_copies M (nI a) (nI b) = some (upM M 0 f) ∧ (∀ j, j < 119 → f (119 * b + j) = M.1 0 (119 * a + j)) ∧ ∀ j, (j < 119 * b ∨ 119 * b + 119 ≤ j) → f j = M.1 0 j := by
  obtain ⟨f, f1, f2⟩ := lp_copy ha hb hab 119 0 fuelN M (by omega) (by unfold fuelN; omega)
  refine ⟨f, f1, ?_, ?_⟩
  · intro j hj
    rw [f2, if_pos (by omega), show 119 * b + j - 119 * b = j from by omega]
  · intro j hj
    rw [f2, if_neg (by omega)]
