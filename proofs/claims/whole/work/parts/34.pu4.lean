/-! the pure part: ells, fines, gates, sums -/
def al (a0 a1 a2 c r t : Nat) : Nat := if c = 1 then a0 + a1 * r - 2 else if c = 2 then a0 + a1 * r + t % 3 * a2 else a0 + a1 * r
theorem t_allowed {B n : Nat} {l : Nat → Nat} {K : RK} {M : MS} (h : Rel B n l K (M.1 0)) {c r t : Nat} (hc : c < 3) (hr : r ≤ 4) (ht : t < 2 ^ 31) : ∃ x : Nat, x ≤ 100 ∧ f_X0_allowedElls K (nI c) (nI r) (nI t) = some (nI x) ∧ f_X6_allowed M (nI c) (nI r) (nI t) = some (nI x) := by
  obtain ⟨a0, h0, e0⟩ := h.1.2.2.2.1
  obtain ⟨a1, h1, e1⟩ := h.1.2.2.2.2.1
  obtain ⟨a2, h2, e2⟩ := h.1.2.2.2.2.2.1
  have w0 : M.1 0 10 = nI a0 := by rw [h.2.2.2.2.1.2.2.2.2.2.2.2.2.2.2.1, e0]
  have w1 : M.1 0 11 = nI a1 := by rw [h.2.2.2.2.1.2.2.2.2.2.2.2.2.2.2.2.1, e1]
  have w2 : M.1 0 12 = nI a2 := by rw [h.2.2.2.2.1.2.2.2.2.2.2.2.2.2.2.2.2.1, e2]
  have hm : a1 * r ≤ 10 * 4 := Nat.mul_le_mul h1 hr
  have hm2 : t % 3 * a2 ≤ 2 * 9 := Nat.mul_le_mul (by omega) h2
  have ec : (nI t - nI t / nI 3 * nI 3) = nI (t % 3) := pk_rem ht (by omega) (by omega)
  unfold f_X0_allowedElls f_X6_allowed
  rcases (show c = 0 ∨ c = 1 ∨ c = 2 by omega) with e | e | e <;> subst e
  · exact ⟨a0 + a1 * r, by omega, by simp (disch := omega) only [e0, e1, ↓pu_m1, pu_i0, pu_i1, pu_i2, pu_i3, pu_i4, pu_i5, pu_i6, pu_i7, pu_i8, pu_i9, pu_i10, pu_i11, pu_i12, pu_i13, pu_i14, pu_i15, pu_i16, pu_i17, pu_i18, pu_i19, pu_i20, pu_i21, pu_i22, pu_i30, pu_i33, pu_i34, pu_i36, pu_i40, pu_i42, pu_i48, pu_i49, pu_i50, pu_i57, pu_i59, pu_i60, pu_i62, pu_i86, pu_i94, pu_i99, pu_i103, pu_i106, pu_i108, pu_i109, pu_i111, pu_i113, pu_i119, pu_i126, pu_i999, pu_bnd, pu_nm, pu_gd, pu_bnd2, pu_bxl, pu_bxr, pu_inb, pu_at, pu_put, pu_us, pu_un, pu_Rs, pu_Rn, pu_upS, pu_M1, pu_M2, pu_MS, pu_MM, pu_RR, pu_H1, pu_H2, nI_add, pk_mul, pk_sub, nI_clamp, nI_eq, nI_leI, nI_ltI, pu_in, pu_of, pu_lay, pu_ll, pu_il, pu_h0, pu_h1, pu_h2, pu_nI_mI, pu_mI_nI, pu_mm, pu_nn, pu_nI_le_mI, pu_nI_lt_mI, pu_mI_lt, pu_mI_le, pu_inW, pu_inO, if_pos, if_neg, ↓reduceIte], by simp (disch := omega) only [w0, w1, ↓pu_m1, pu_i0, pu_i1, pu_i2, pu_i3, pu_i4, pu_i5, pu_i6, pu_i7, pu_i8, pu_i9, pu_i10, pu_i11, pu_i12, pu_i13, pu_i14, pu_i15, pu_i16, pu_i17, pu_i18, pu_i19, pu_i20, pu_i21, pu_i22, pu_i30, pu_i33, pu_i34, pu_i36, pu_i40, pu_i42, pu_i48, pu_i49, pu_i50, pu_i57, pu_i59, pu_i60, pu_i62, pu_i86, pu_i94, pu_i99, pu_i103, pu_i106, pu_i108, pu_i109, pu_i111, pu_i113, pu_i119, pu_i126, pu_i999, pu_bnd, pu_nm, pu_gd, pu_bnd2, pu_bxl, pu_bxr, pu_inb, pu_at, pu_put, pu_us, pu_un, pu_Rs, pu_Rn, pu_upS, pu_M1, pu_M2, pu_MS, pu_MM, pu_RR, pu_H1, pu_H2, nI_add, pk_mul, pk_sub, nI_clamp, nI_eq, nI_leI, nI_ltI, pu_in, pu_of, pu_lay, pu_ll, pu_il, pu_h0, pu_h1, pu_h2, pu_nI_mI, pu_mI_nI, pu_mm, pu_nn, pu_nI_le_mI, pu_nI_lt_mI, pu_mI_lt, pu_mI_le, pu_inW, pu_inO, if_pos, if_neg, ↓reduceIte]⟩
  · refine ⟨a0 + a1 * r - 2, by omega, ?_, ?_⟩
    · simp (disch := omega) only [e0, e1, pu_maxs, ↓pu_m1, pu_i0, pu_i1, pu_i2, pu_i3, pu_i4, pu_i5, pu_i6, pu_i7, pu_i8, pu_i9, pu_i10, pu_i11, pu_i12, pu_i13, pu_i14, pu_i15, pu_i16, pu_i17, pu_i18, pu_i19, pu_i20, pu_i21, pu_i22, pu_i30, pu_i33, pu_i34, pu_i36, pu_i40, pu_i42, pu_i48, pu_i49, pu_i50, pu_i57, pu_i59, pu_i60, pu_i62, pu_i86, pu_i94, pu_i99, pu_i103, pu_i106, pu_i108, pu_i109, pu_i111, pu_i113, pu_i119, pu_i126, pu_i999, pu_bnd, pu_nm, pu_gd, pu_bnd2, pu_bxl, pu_bxr, pu_inb, pu_at, pu_put, pu_us, pu_un, pu_Rs, pu_Rn, pu_upS, pu_M1, pu_M2, pu_MS, pu_MM, pu_RR, pu_H1, pu_H2, nI_add, pk_mul, pk_sub, nI_clamp, nI_eq, nI_leI, nI_ltI, pu_in, pu_of, pu_lay, pu_ll, pu_il, pu_h0, pu_h1, pu_h2, pu_nI_mI, pu_mI_nI, pu_mm, pu_nn, pu_nI_le_mI, pu_nI_lt_mI, pu_mI_lt, pu_mI_le, pu_inW, pu_inO, if_pos, if_neg, ↓reduceIte]
    · by_cases q : 2 ≤ a0 + a1 * r
      · simp (disch := omega) only [w0, w1, ↓pu_m1, pu_i0, pu_i1, pu_i2, pu_i3, pu_i4, pu_i5, pu_i6, pu_i7, pu_i8, pu_i9, pu_i10, pu_i11, pu_i12, pu_i13, pu_i14, pu_i15, pu_i16, pu_i17, pu_i18, pu_i19, pu_i20, pu_i21, pu_i22, pu_i30, pu_i33, pu_i34, pu_i36, pu_i40, pu_i42, pu_i48, pu_i49, pu_i50, pu_i57, pu_i59, pu_i60, pu_i62, pu_i86, pu_i94, pu_i99, pu_i103, pu_i106, pu_i108, pu_i109, pu_i111, pu_i113, pu_i119, pu_i126, pu_i999, pu_bnd, pu_nm, pu_gd, pu_bnd2, pu_bxl, pu_bxr, pu_inb, pu_at, pu_put, pu_us, pu_un, pu_Rs, pu_Rn, pu_upS, pu_M1, pu_M2, pu_MS, pu_MM, pu_RR, pu_H1, pu_H2, nI_add, pk_mul, pk_sub, nI_clamp, nI_eq, nI_leI, nI_ltI, pu_in, pu_of, pu_lay, pu_ll, pu_il, pu_h0, pu_h1, pu_h2, pu_nI_mI, pu_mI_nI, pu_mm, pu_nn, pu_nI_le_mI, pu_nI_lt_mI, pu_mI_lt, pu_mI_le, pu_inW, pu_inO, if_pos, if_neg, ↓reduceIte]
      · simp (disch := omega) only [w0, w1, ↓pu_m1, pu_i0, pu_i1, pu_i2, pu_i3, pu_i4, pu_i5, pu_i6, pu_i7, pu_i8, pu_i9, pu_i10, pu_i11, pu_i12, pu_i13, pu_i14, pu_i15, pu_i16, pu_i17, pu_i18, pu_i19, pu_i20, pu_i21, pu_i22, pu_i30, pu_i33, pu_i34, pu_i36, pu_i40, pu_i42, pu_i48, pu_i49, pu_i50, pu_i57, pu_i59, pu_i60, pu_i62, pu_i86, pu_i94, pu_i99, pu_i103, pu_i106, pu_i108, pu_i109, pu_i111, pu_i113, pu_i119, pu_i126, pu_i999, pu_bnd, pu_nm, pu_gd, pu_bnd2, pu_bxl, pu_bxr, pu_inb, pu_at, pu_put, pu_us, pu_un, pu_Rs, pu_Rn, pu_upS, pu_M1, pu_M2, pu_MS, pu_MM, pu_RR, pu_H1, pu_H2, nI_add, pk_mul, pk_sub, nI_clamp, nI_eq, nI_leI, nI_ltI, pu_in, pu_of, pu_lay, pu_ll, pu_il, pu_h0, pu_h1, pu_h2, pu_nI_mI, pu_mI_nI, pu_mm, pu_nn, pu_nI_le_mI, pu_nI_lt_mI, pu_mI_lt, pu_mI_le, pu_inW, pu_inO, if_pos, if_neg, ↓reduceIte]
        rw [show a0 + a1 * r - 2 = 0 from by omega]
  · refine ⟨a0 + a1 * r + t % 3 * a2, by omega, ?_, ?_⟩
    · simp only [pu_i3, ec]
      simp (disch := omega) only [e0, e1, e2, ec, ↓pu_m1, pu_i0, pu_i1, pu_i2, pu_i3, pu_i4, pu_i5, pu_i6, pu_i7, pu_i8, pu_i9, pu_i10, pu_i11, pu_i12, pu_i13, pu_i14, pu_i15, pu_i16, pu_i17, pu_i18, pu_i19, pu_i20, pu_i21, pu_i22, pu_i30, pu_i33, pu_i34, pu_i36, pu_i40, pu_i42, pu_i48, pu_i49, pu_i50, pu_i57, pu_i59, pu_i60, pu_i62, pu_i86, pu_i94, pu_i99, pu_i103, pu_i106, pu_i108, pu_i109, pu_i111, pu_i113, pu_i119, pu_i126, pu_i999, pu_bnd, pu_nm, pu_gd, pu_bnd2, pu_bxl, pu_bxr, pu_inb, pu_at, pu_put, pu_us, pu_un, pu_Rs, pu_Rn, pu_upS, pu_M1, pu_M2, pu_MS, pu_MM, pu_RR, pu_H1, pu_H2, nI_add, pk_mul, pk_sub, nI_clamp, nI_eq, nI_leI, nI_ltI, pu_in, pu_of, pu_lay, pu_ll, pu_il, pu_h0, pu_h1, pu_h2, pu_nI_mI, pu_mI_nI, pu_mm, pu_nn, pu_nI_le_mI, pu_nI_lt_mI, pu_mI_lt, pu_mI_le, pu_inW, pu_inO, if_pos, if_neg, ↓reduceIte]
    · simp only [pu_i3, ec]
      simp (disch := omega) only [w0, w1, w2, ec, ↓pu_m1, pu_i0, pu_i1, pu_i2, pu_i3, pu_i4, pu_i5, pu_i6, pu_i7, pu_i8, pu_i9, pu_i10, pu_i11, pu_i12, pu_i13, pu_i14, pu_i15, pu_i16, pu_i17, pu_i18, pu_i19, pu_i20, pu_i21, pu_i22, pu_i30, pu_i33, pu_i34, pu_i36, pu_i40, pu_i42, pu_i48, pu_i49, pu_i50, pu_i57, pu_i59, pu_i60, pu_i62, pu_i86, pu_i94, pu_i99, pu_i103, pu_i106, pu_i108, pu_i109, pu_i111, pu_i113, pu_i119, pu_i126, pu_i999, pu_bnd, pu_nm, pu_gd, pu_bnd2, pu_bxl, pu_bxr, pu_inb, pu_at, pu_put, pu_us, pu_un, pu_Rs, pu_Rn, pu_upS, pu_M1, pu_M2, pu_MS, pu_MM, pu_RR, pu_H1, pu_H2, nI_add, pk_mul, pk_sub, nI_clamp, nI_eq, nI_leI, nI_ltI, pu_in, pu_of, pu_lay, pu_ll, pu_il, pu_h0, pu_h1, pu_h2, pu_nI_mI, pu_mI_nI, pu_mm, pu_nn, pu_nI_le_mI, pu_nI_lt_mI, pu_mI_lt, pu_mI_le, pu_inW, pu_inO, if_pos, if_neg, ↓reduceIte]
theorem t_masked {B n : Nat} {l : Nat → Nat} {K : RK} {w : Nat → Int32} (h : Rel B n l K w) {g p m : Nat} (hg : g < n) (hp : p ≤ 999) (hm : m ≤ 9) (ep : K 1 g = nI p) (em : K 6 g = nI m) : f_X0_passesMasked K (nI g) = some (if wc K g = mI then nI 0 else if m = 0 then nI 0 else if p = 0 then nI 0 else nI 1) := by
  have hn := h.n10
  unfold f_X0_passesMasked
  rw [t_wc (by omega)]
  by_cases h1 : wc K g = mI
  · simp (disch := omega) only [h1, ↓pu_m1, pu_i0, pu_i1, pu_i2, pu_i3, pu_i4, pu_i5, pu_i6, pu_i7, pu_i8, pu_i9, pu_i10, pu_i11, pu_i12, pu_i13, pu_i14, pu_i15, pu_i16, pu_i17, pu_i18, pu_i19, pu_i20, pu_i21, pu_i22, pu_i30, pu_i33, pu_i34, pu_i36, pu_i40, pu_i42, pu_i48, pu_i49, pu_i50, pu_i57, pu_i59, pu_i60, pu_i62, pu_i86, pu_i94, pu_i99, pu_i103, pu_i106, pu_i108, pu_i109, pu_i111, pu_i113, pu_i119, pu_i126, pu_i999, pu_bnd, pu_nm, pu_gd, pu_bnd2, pu_bxl, pu_bxr, pu_inb, pu_at, pu_put, pu_us, pu_un, pu_Rs, pu_Rn, pu_upS, pu_M1, pu_M2, pu_MS, pu_MM, pu_RR, pu_H1, pu_H2, nI_add, pk_mul, pk_sub, nI_clamp, nI_eq, nI_leI, nI_ltI, pu_in, pu_of, pu_lay, pu_ll, pu_il, pu_h0, pu_h1, pu_h2, pu_nI_mI, pu_mI_nI, pu_mm, pu_nn, pu_nI_le_mI, pu_nI_lt_mI, pu_mI_lt, pu_mI_le, pu_inW, pu_inO, if_pos, if_neg, ↓reduceIte]
  · by_cases h2 : m = 0
    · subst h2
      simp (disch := omega) only [h1, em, ↓pu_m1, pu_i0, pu_i1, pu_i2, pu_i3, pu_i4, pu_i5, pu_i6, pu_i7, pu_i8, pu_i9, pu_i10, pu_i11, pu_i12, pu_i13, pu_i14, pu_i15, pu_i16, pu_i17, pu_i18, pu_i19, pu_i20, pu_i21, pu_i22, pu_i30, pu_i33, pu_i34, pu_i36, pu_i40, pu_i42, pu_i48, pu_i49, pu_i50, pu_i57, pu_i59, pu_i60, pu_i62, pu_i86, pu_i94, pu_i99, pu_i103, pu_i106, pu_i108, pu_i109, pu_i111, pu_i113, pu_i119, pu_i126, pu_i999, pu_bnd, pu_nm, pu_gd, pu_bnd2, pu_bxl, pu_bxr, pu_inb, pu_at, pu_put, pu_us, pu_un, pu_Rs, pu_Rn, pu_upS, pu_M1, pu_M2, pu_MS, pu_MM, pu_RR, pu_H1, pu_H2, nI_add, pk_mul, pk_sub, nI_clamp, nI_eq, nI_leI, nI_ltI, pu_in, pu_of, pu_lay, pu_ll, pu_il, pu_h0, pu_h1, pu_h2, pu_nI_mI, pu_mI_nI, pu_mm, pu_nn, pu_nI_le_mI, pu_nI_lt_mI, pu_mI_lt, pu_mI_le, pu_inW, pu_inO, if_pos, if_neg, ↓reduceIte]
    · by_cases h3 : p = 0
      · subst h3
        simp (disch := omega) only [h1, em, ep, ↓pu_m1, pu_i0, pu_i1, pu_i2, pu_i3, pu_i4, pu_i5, pu_i6, pu_i7, pu_i8, pu_i9, pu_i10, pu_i11, pu_i12, pu_i13, pu_i14, pu_i15, pu_i16, pu_i17, pu_i18, pu_i19, pu_i20, pu_i21, pu_i22, pu_i30, pu_i33, pu_i34, pu_i36, pu_i40, pu_i42, pu_i48, pu_i49, pu_i50, pu_i57, pu_i59, pu_i60, pu_i62, pu_i86, pu_i94, pu_i99, pu_i103, pu_i106, pu_i108, pu_i109, pu_i111, pu_i113, pu_i119, pu_i126, pu_i999, pu_bnd, pu_nm, pu_gd, pu_bnd2, pu_bxl, pu_bxr, pu_inb, pu_at, pu_put, pu_us, pu_un, pu_Rs, pu_Rn, pu_upS, pu_M1, pu_M2, pu_MS, pu_MM, pu_RR, pu_H1, pu_H2, nI_add, pk_mul, pk_sub, nI_clamp, nI_eq, nI_leI, nI_ltI, pu_in, pu_of, pu_lay, pu_ll, pu_il, pu_h0, pu_h1, pu_h2, pu_nI_mI, pu_mI_nI, pu_mm, pu_nn, pu_nI_le_mI, pu_nI_lt_mI, pu_mI_lt, pu_mI_le, pu_inW, pu_inO, if_pos, if_neg, ↓reduceIte]
      · simp (disch := omega) only [h1, em, ep, ↓pu_m1, pu_i0, pu_i1, pu_i2, pu_i3, pu_i4, pu_i5, pu_i6, pu_i7, pu_i8, pu_i9, pu_i10, pu_i11, pu_i12, pu_i13, pu_i14, pu_i15, pu_i16, pu_i17, pu_i18, pu_i19, pu_i20, pu_i21, pu_i22, pu_i30, pu_i33, pu_i34, pu_i36, pu_i40, pu_i42, pu_i48, pu_i49, pu_i50, pu_i57, pu_i59, pu_i60, pu_i62, pu_i86, pu_i94, pu_i99, pu_i103, pu_i106, pu_i108, pu_i109, pu_i111, pu_i113, pu_i119, pu_i126, pu_i999, pu_bnd, pu_nm, pu_gd, pu_bnd2, pu_bxl, pu_bxr, pu_inb, pu_at, pu_put, pu_us, pu_un, pu_Rs, pu_Rn, pu_upS, pu_M1, pu_M2, pu_MS, pu_MM, pu_RR, pu_H1, pu_H2, nI_add, pk_mul, pk_sub, nI_clamp, nI_eq, nI_leI, nI_ltI, pu_in, pu_of, pu_lay, pu_ll, pu_il, pu_h0, pu_h1, pu_h2, pu_nI_mI, pu_mI_nI, pu_mm, pu_nn, pu_nI_le_mI, pu_nI_lt_mI, pu_mI_lt, pu_mI_le, pu_inW, pu_inO, if_pos, if_neg, ↓reduceIte]
def ha (K : RK) (g left : Nat) : Int32 := if K 4 g = mI then nI 0 else imin (nI (left / 2)) (K 1 (K 4 g).toNatClampNeg)
theorem ha_val {B n : Nat} {l : Nat → Nat} {K : RK} {w : Nat → Int32} (h : Rel B n l K w) {g left : Nat} (hg : g < n) (hl : left < 2 ^ 30) : ∃ y : Nat, y ≤ left ∧ ha K g left = nI y ∧ ((K 4 g = mI ∧ y = 0) ∨ ∃ o q : Nat, o < n ∧ o ≠ g ∧ K 4 g = nI o ∧ K 1 o = nI q ∧ q ≤ 999 ∧ y ≤ q) := by
  have hn := h.n10
  unfold ha
  rcases (h.2.2.1 g hg).1 with e | ⟨o, h1, h2, e, h5⟩
  · exact ⟨0, by omega, by rw [e, if_pos rfl], Or.inl ⟨e, rfl⟩⟩
  · obtain ⟨r, p, d, c, m, i, hb, hk, -⟩ := h.gs h1
    refine ⟨min (left / 2) p, by omega, ?_, Or.inr ⟨o, p, h1, h2, e, hk.2.1, hb.2.1, by omega⟩⟩
    rw [e, if_neg (nI_nm (by omega)), nI_clamp (by omega), hk.2.1, pu_min (by omega) (by omega)]
theorem t_byLender {B n : Nat} {l : Nat → Nat} {K : RK} {w : Nat → Int32} (h : Rel B n l K w) {g left : Nat} (hg : g < n) (hl : left < 2 ^ 30) : f_X0_paidByLender K (nI g) (nI left) = some (ha K g left) := by
  have hn := h.n10
  have e2 : nI left / nI 2 = nI (left / 2) := pk_div (by omega) (by omega) (by omega)
  unfold f_X0_paidByLender ha
  rcases (h.2.2.1 g hg).1 with e | ⟨o, h1, h2, e, h5⟩
  · rw [e]
    simp (disch := omega) only [e, ↓pu_m1, pu_i0, pu_i1, pu_i2, pu_i3, pu_i4, pu_i5, pu_i6, pu_i7, pu_i8, pu_i9, pu_i10, pu_i11, pu_i12, pu_i13, pu_i14, pu_i15, pu_i16, pu_i17, pu_i18, pu_i19, pu_i20, pu_i21, pu_i22, pu_i30, pu_i33, pu_i34, pu_i36, pu_i40, pu_i42, pu_i48, pu_i49, pu_i50, pu_i57, pu_i59, pu_i60, pu_i62, pu_i86, pu_i94, pu_i99, pu_i103, pu_i106, pu_i108, pu_i109, pu_i111, pu_i113, pu_i119, pu_i126, pu_i999, pu_bnd, pu_nm, pu_gd, pu_bnd2, pu_bxl, pu_bxr, pu_inb, pu_at, pu_put, pu_us, pu_un, pu_Rs, pu_Rn, pu_upS, pu_M1, pu_M2, pu_MS, pu_MM, pu_RR, pu_H1, pu_H2, nI_add, pk_mul, pk_sub, nI_clamp, nI_eq, nI_leI, nI_ltI, pu_in, pu_of, pu_lay, pu_ll, pu_il, pu_h0, pu_h1, pu_h2, pu_nI_mI, pu_mI_nI, pu_mm, pu_nn, pu_nI_le_mI, pu_nI_lt_mI, pu_mI_lt, pu_mI_le, pu_inW, pu_inO, if_pos, if_neg, ↓reduceIte]
  · rw [e]
    simp (disch := omega) only [e, e2, ↓pu_m1, pu_i0, pu_i1, pu_i2, pu_i3, pu_i4, pu_i5, pu_i6, pu_i7, pu_i8, pu_i9, pu_i10, pu_i11, pu_i12, pu_i13, pu_i14, pu_i15, pu_i16, pu_i17, pu_i18, pu_i19, pu_i20, pu_i21, pu_i22, pu_i30, pu_i33, pu_i34, pu_i36, pu_i40, pu_i42, pu_i48, pu_i49, pu_i50, pu_i57, pu_i59, pu_i60, pu_i62, pu_i86, pu_i94, pu_i99, pu_i103, pu_i106, pu_i108, pu_i109, pu_i111, pu_i113, pu_i119, pu_i126, pu_i999, pu_bnd, pu_nm, pu_gd, pu_bnd2, pu_bxl, pu_bxr, pu_inb, pu_at, pu_put, pu_us, pu_un, pu_Rs, pu_Rn, pu_upS, pu_M1, pu_M2, pu_MS, pu_MM, pu_RR, pu_H1, pu_H2, nI_add, pk_mul, pk_sub, nI_clamp, nI_eq, nI_leI, nI_ltI, pu_in, pu_of, pu_lay, pu_ll, pu_il, pu_h0, pu_h1, pu_h2, pu_nI_mI, pu_mI_nI, pu_mm, pu_nn, pu_nI_le_mI, pu_nI_lt_mI, pu_mI_lt, pu_mI_le, pu_inW, pu_inO, if_pos, if_neg, ↓reduceIte]
theorem t_J95 {B n : Nat} {l : Nat → Nat} {K : RK} {M : MS} (h : Rel B n l K (M.1 0)) {g p d x s3 e : Nat} (hg : g < n) (hp : p ≤ 999) (hs : s3 ≤ 9) (he : e ≤ 40) (hx : x ≤ 1) (es : M.1 0 13 = nI s3) (ed : M.1 0 (16 + 7 * g + 2) = nI d) (z : e = 0 ∨ x = 0) : f_X6_judges_b95 M (nI g) (nI p) (nI x) (nI e) = some (upM M 2 (upd (upd (upd (upd (upd (M.1 2) 0 (nI e)) 1 (nI (e * s3))) 2 (if x = 0 then nI (min (e * s3) p) else nI 1)) 3 (nI d + nI (e * s3 - p) - ha K g (e * s3 - p))) 4 (ha K g (e * s3 - p)))) := by
  have hn := h.n10
  have hm : e * s3 ≤ 40 * 9 := Nat.mul_le_mul he hs
  have hf : s3 * e = e * s3 := Nat.mul_comm _ _
  have hl : e * s3 - min (e * s3) p = e * s3 - p := by omega
  have e2 : nI (e * s3 - p) / nI 2 = nI ((e * s3 - p) / 2) := pk_div (by omega) (by omega) (by omega)
  have a4 := (h.2.2.2.2.2.1 g hg).2.2.2.2.1
  unfold f_X6_judges_b95
  rw [t_bor h hg]
  unfold ha
  rcases (h.2.2.1 g hg).1 with e4 | ⟨o, h1, h2, e4, h5⟩
  · rw [e4]
    rcases (show x = 0 ∨ x = 1 by omega) with ex | ex <;> subst ex
    · simp (disch := omega) only [es, hf, pu_les, hl, f_X6_judges_b154, f_X6_judges_b188, ed, ↓pu_m1, pu_i0, pu_i1, pu_i2, pu_i3, pu_i4, pu_i5, pu_i6, pu_i7, pu_i8, pu_i9, pu_i10, pu_i11, pu_i12, pu_i13, pu_i14, pu_i15, pu_i16, pu_i17, pu_i18, pu_i19, pu_i20, pu_i21, pu_i22, pu_i30, pu_i33, pu_i34, pu_i36, pu_i40, pu_i42, pu_i48, pu_i49, pu_i50, pu_i57, pu_i59, pu_i60, pu_i62, pu_i86, pu_i94, pu_i99, pu_i103, pu_i106, pu_i108, pu_i109, pu_i111, pu_i113, pu_i119, pu_i126, pu_i999, pu_bnd, pu_nm, pu_gd, pu_bnd2, pu_bxl, pu_bxr, pu_inb, pu_at, pu_put, pu_us, pu_un, pu_Rs, pu_Rn, pu_upS, pu_M1, pu_M2, pu_MS, pu_MM, pu_RR, pu_H1, pu_H2, nI_add, pk_mul, pk_sub, nI_clamp, nI_eq, nI_leI, nI_ltI, pu_in, pu_of, pu_lay, pu_ll, pu_il, pu_h0, pu_h1, pu_h2, pu_nI_mI, pu_mI_nI, pu_mm, pu_nn, pu_nI_le_mI, pu_nI_lt_mI, pu_mI_lt, pu_mI_le, pu_inW, pu_inO, if_pos, if_neg, ↓reduceIte]
    · simp (disch := omega) only [es, hf, pu_les, hl, f_X6_judges_b154, f_X6_judges_b188, ed, ↓pu_m1, pu_i0, pu_i1, pu_i2, pu_i3, pu_i4, pu_i5, pu_i6, pu_i7, pu_i8, pu_i9, pu_i10, pu_i11, pu_i12, pu_i13, pu_i14, pu_i15, pu_i16, pu_i17, pu_i18, pu_i19, pu_i20, pu_i21, pu_i22, pu_i30, pu_i33, pu_i34, pu_i36, pu_i40, pu_i42, pu_i48, pu_i49, pu_i50, pu_i57, pu_i59, pu_i60, pu_i62, pu_i86, pu_i94, pu_i99, pu_i103, pu_i106, pu_i108, pu_i109, pu_i111, pu_i113, pu_i119, pu_i126, pu_i999, pu_bnd, pu_nm, pu_gd, pu_bnd2, pu_bxl, pu_bxr, pu_inb, pu_at, pu_put, pu_us, pu_un, pu_Rs, pu_Rn, pu_upS, pu_M1, pu_M2, pu_MS, pu_MM, pu_RR, pu_H1, pu_H2, nI_add, pk_mul, pk_sub, nI_clamp, nI_eq, nI_leI, nI_ltI, pu_in, pu_of, pu_lay, pu_ll, pu_il, pu_h0, pu_h1, pu_h2, pu_nI_mI, pu_mI_nI, pu_mm, pu_nn, pu_nI_le_mI, pu_nI_lt_mI, pu_mI_lt, pu_mI_le, pu_inW, pu_inO, if_pos, if_neg, ↓reduceIte]
  · have a4' : M.1 0 (16 + 7 * g + 4) = nI o := by
      rw [a4]
      unfold wc
      rw [e4, if_neg (by rw [pu_nI_mI (by omega)]; exact fun q => q)]
    obtain ⟨r2, p2, d2, c2, m2, i2, hb2, hk2, b0, b1, b2, b3, b4, b5, b6⟩ := h.gs h1
    rw [e4]
    rcases (show x = 0 ∨ x = 1 by omega) with ex | ex <;> subst ex
    · simp (disch := omega) only [es, hf, pu_les, pu_min, hl, f_X6_judges_b154, f_X6_judges_b188, ed, a4', b1, e2, hk2.2.1, ↓pu_m1, pu_i0, pu_i1, pu_i2, pu_i3, pu_i4, pu_i5, pu_i6, pu_i7, pu_i8, pu_i9, pu_i10, pu_i11, pu_i12, pu_i13, pu_i14, pu_i15, pu_i16, pu_i17, pu_i18, pu_i19, pu_i20, pu_i21, pu_i22, pu_i30, pu_i33, pu_i34, pu_i36, pu_i40, pu_i42, pu_i48, pu_i49, pu_i50, pu_i57, pu_i59, pu_i60, pu_i62, pu_i86, pu_i94, pu_i99, pu_i103, pu_i106, pu_i108, pu_i109, pu_i111, pu_i113, pu_i119, pu_i126, pu_i999, pu_bnd, pu_nm, pu_gd, pu_bnd2, pu_bxl, pu_bxr, pu_inb, pu_at, pu_put, pu_us, pu_un, pu_Rs, pu_Rn, pu_upS, pu_M1, pu_M2, pu_MS, pu_MM, pu_RR, pu_H1, pu_H2, nI_add, pk_mul, pk_sub, nI_clamp, nI_eq, nI_leI, nI_ltI, pu_in, pu_of, pu_lay, pu_ll, pu_il, pu_h0, pu_h1, pu_h2, pu_nI_mI, pu_mI_nI, pu_mm, pu_nn, pu_nI_le_mI, pu_nI_lt_mI, pu_mI_lt, pu_mI_le, pu_inW, pu_inO, if_pos, if_neg, ↓reduceIte]
    · simp (disch := omega) only [es, hf, pu_les, pu_min, hl, f_X6_judges_b154, f_X6_judges_b188, ed, a4', b1, e2, hk2.2.1, ↓pu_m1, pu_i0, pu_i1, pu_i2, pu_i3, pu_i4, pu_i5, pu_i6, pu_i7, pu_i8, pu_i9, pu_i10, pu_i11, pu_i12, pu_i13, pu_i14, pu_i15, pu_i16, pu_i17, pu_i18, pu_i19, pu_i20, pu_i21, pu_i22, pu_i30, pu_i33, pu_i34, pu_i36, pu_i40, pu_i42, pu_i48, pu_i49, pu_i50, pu_i57, pu_i59, pu_i60, pu_i62, pu_i86, pu_i94, pu_i99, pu_i103, pu_i106, pu_i108, pu_i109, pu_i111, pu_i113, pu_i119, pu_i126, pu_i999, pu_bnd, pu_nm, pu_gd, pu_bnd2, pu_bxl, pu_bxr, pu_inb, pu_at, pu_put, pu_us, pu_un, pu_Rs, pu_Rn, pu_upS, pu_M1, pu_M2, pu_MS, pu_MM, pu_RR, pu_H1, pu_H2, nI_add, pk_mul, pk_sub, nI_clamp, nI_eq, nI_leI, nI_ltI, pu_in, pu_of, pu_lay, pu_ll, pu_il, pu_h0, pu_h1, pu_h2, pu_nI_mI, pu_mI_nI, pu_mm, pu_nn, pu_nI_le_mI, pu_nI_lt_mI, pu_mI_lt, pu_mI_le, pu_inW, pu_inO, if_pos, if_neg, ↓reduceIte]
theorem t_judge {B n : Nat} {l : Nat → Nat} {K : RK} {M : MS} (h : Rel B n l K (M.1 0)) (hB : 360 * B < 2 ^ 30) {g c : Nat} (hg : g < n) (hc : c < 3) : ∃ (e s3 p d x f : Nat), e ≤ 40 ∧ s3 ≤ 9 ∧ p ≤ 999 ∧ d ≤ 360 * B ∧ f ≤ p ∧ K 1 g = nI p ∧ K 2 g = nI d ∧ K 10 3 = nI s3 ∧ f = x ∧ f_X0_ellsTooMuch K (nI g) (nI c) = some (nI e) ∧ f_X0_paidByGuest K (nI g) (nI (e * s3)) = some (nI f) ∧ f_X0_leftOfFine K (nI g) (nI (e * s3)) = some (nI (e * s3 - p)) ∧ f_X0_paidByLender K (nI g) (nI (e * s3 - p)) = some (ha K g (e * s3 - p)) ∧ f_X6_judges M (nI g) (nI c) = some (upM M 2 (upd (upd (upd (upd (upd (M.1 2) 0 (nI e)) 1 (nI (e * s3))) 2 (nI f)) 3 (nI d + nI (e * s3 - p) - ha K g (e * s3 - p))) 4 (ha K g (e * s3 - p)))) ∧ (e = 0 ∨ ∃ o y : Nat, o < n ∧ wc K g = nI o ∧ K 3 o = nI y ∧ e ≤ y ∧ y ≤ 40) := by
  have hn := h.n10
  obtain ⟨r, p, d, c3, m, i, hb, hk, a0, a1, a2, a3, a4, a5, a6⟩ := h.gs hg
  obtain ⟨s3, hs3, es3⟩ := h.1.2.2.2.2.2.2.1
  have w3 : M.1 0 13 = nI s3 := by rw [h.2.2.2.2.1.2.2.2.2.2.2.2.2.2.2.2.2.2.1, es3]
  obtain ⟨t, ht, et⟩ := h.1.2.2.1
  have wt : M.1 0 0 = nI t := by rw [h.2.2.2.2.1.1, et]
  obtain ⟨x, hx, ex1, ex2⟩ := t_allowed h hc hb.1 (show t < 2 ^ 31 by omega)
  obtain ⟨y, hy, ey, hy2⟩ := wl_val h hg
  have tw := t_worn h hg
  have tl := t_wl h.2.2.1 hn hg
  have tm := t_masked h hg hb.2.1 hb.2.2.2.2.1 hk.2.1 hk.2.2.2.2.1
  rw [ey] at tw tl
  have lf : ∀ q : Nat, q ≤ 40 * 9 → f_X0_leftOfFine K (nI g) (nI q) = some (nI (q - p)) := by
    intro q hq
    unfold f_X0_leftOfFine
    simp (disch := omega) only [hk.2.1, pu_maxs, ↓pu_m1, pu_i0, pu_i1, pu_i2, pu_i3, pu_i4, pu_i5, pu_i6, pu_i7, pu_i8, pu_i9, pu_i10, pu_i11, pu_i12, pu_i13, pu_i14, pu_i15, pu_i16, pu_i17, pu_i18, pu_i19, pu_i20, pu_i21, pu_i22, pu_i30, pu_i33, pu_i34, pu_i36, pu_i40, pu_i42, pu_i48, pu_i49, pu_i50, pu_i57, pu_i59, pu_i60, pu_i62, pu_i86, pu_i94, pu_i99, pu_i103, pu_i106, pu_i108, pu_i109, pu_i111, pu_i113, pu_i119, pu_i126, pu_i999, pu_bnd, pu_nm, pu_gd, pu_bnd2, pu_bxl, pu_bxr, pu_inb, pu_at, pu_put, pu_us, pu_un, pu_Rs, pu_Rn, pu_upS, pu_M1, pu_M2, pu_MS, pu_MM, pu_RR, pu_H1, pu_H2, nI_add, pk_mul, pk_sub, nI_clamp, nI_eq, nI_leI, nI_ltI, pu_in, pu_of, pu_lay, pu_ll, pu_il, pu_h0, pu_h1, pu_h2, pu_nI_mI, pu_mI_nI, pu_mm, pu_nn, pu_nI_le_mI, pu_nI_lt_mI, pu_mI_lt, pu_mI_le, pu_inW, pu_inO, if_pos, if_neg, ↓reduceIte]
  have hL : ∀ q : Nat, q ≤ 40 * 9 → f_X0_paidByLender K (nI g) (nI (q - p)) = some (ha K g (q - p)) := fun q hq => t_byLender h hg (by omega)
  have hmul : ∀ q : Nat, q ≤ 40 → q * s3 ≤ 40 * 9 := fun q hq => Nat.mul_le_mul hq hs3
  rcases hy2 with ⟨hw, hy0⟩ | ⟨o, ho, hw, ho3⟩
  · subst hy0
    have hm0 := hmul 0 (by omega)
    rw [hw, if_pos rfl] at tm
    refine ⟨0, s3, p, d, 0, 0, by omega, hs3, hb.2.1, hb.2.2.1, by omega, hk.2.1, hk.2.2.1, es3, rfl, ?_, ?_, lf _ hm0, hL _ hm0, ?_, Or.inl rfl⟩
    · unfold f_X0_ellsTooMuch
      rw [tm, tl]
      simp (disch := omega) only [hk.1, et, ex1, pu_maxs, ↓pu_m1, pu_i0, pu_i1, pu_i2, pu_i3, pu_i4, pu_i5, pu_i6, pu_i7, pu_i8, pu_i9, pu_i10, pu_i11, pu_i12, pu_i13, pu_i14, pu_i15, pu_i16, pu_i17, pu_i18, pu_i19, pu_i20, pu_i21, pu_i22, pu_i30, pu_i33, pu_i34, pu_i36, pu_i40, pu_i42, pu_i48, pu_i49, pu_i50, pu_i57, pu_i59, pu_i60, pu_i62, pu_i86, pu_i94, pu_i99, pu_i103, pu_i106, pu_i108, pu_i109, pu_i111, pu_i113, pu_i119, pu_i126, pu_i999, pu_bnd, pu_nm, pu_gd, pu_bnd2, pu_bxl, pu_bxr, pu_inb, pu_at, pu_put, pu_us, pu_un, pu_Rs, pu_Rn, pu_upS, pu_M1, pu_M2, pu_MS, pu_MM, pu_RR, pu_H1, pu_H2, nI_add, pk_mul, pk_sub, nI_clamp, nI_eq, nI_leI, nI_ltI, pu_in, pu_of, pu_lay, pu_ll, pu_il, pu_h0, pu_h1, pu_h2, pu_nI_mI, pu_mI_nI, pu_mm, pu_nn, pu_nI_le_mI, pu_nI_lt_mI, pu_mI_lt, pu_mI_le, pu_inW, pu_inO, if_pos, if_neg, ↓reduceIte]
      rw [show 0 - x = 0 from by omega]
    · unfold f_X0_paidByGuest
      rw [tm]
      simp (disch := omega) only [hk.2.1, pu_min, ↓pu_m1, pu_i0, pu_i1, pu_i2, pu_i3, pu_i4, pu_i5, pu_i6, pu_i7, pu_i8, pu_i9, pu_i10, pu_i11, pu_i12, pu_i13, pu_i14, pu_i15, pu_i16, pu_i17, pu_i18, pu_i19, pu_i20, pu_i21, pu_i22, pu_i30, pu_i33, pu_i34, pu_i36, pu_i40, pu_i42, pu_i48, pu_i49, pu_i50, pu_i57, pu_i59, pu_i60, pu_i62, pu_i86, pu_i94, pu_i99, pu_i103, pu_i106, pu_i108, pu_i109, pu_i111, pu_i113, pu_i119, pu_i126, pu_i999, pu_bnd, pu_nm, pu_gd, pu_bnd2, pu_bxl, pu_bxr, pu_inb, pu_at, pu_put, pu_us, pu_un, pu_Rs, pu_Rn, pu_upS, pu_M1, pu_M2, pu_MS, pu_MM, pu_RR, pu_H1, pu_H2, nI_add, pk_mul, pk_sub, nI_clamp, nI_eq, nI_leI, nI_ltI, pu_in, pu_of, pu_lay, pu_ll, pu_il, pu_h0, pu_h1, pu_h2, pu_nI_mI, pu_mI_nI, pu_mm, pu_nn, pu_nI_le_mI, pu_nI_lt_mI, pu_mI_lt, pu_mI_le, pu_inW, pu_inO, if_pos, if_neg, ↓reduceIte]
      rw [show min (0 * s3) p = 0 from by omega]
    · rw [hw] at a4
      have j := t_J95 h (x := 0) (e := 0) hg hb.2.1 hs3 (by omega) (by omega) w3 a2 (Or.inl rfl)
      rw [if_pos rfl, show min (0 * s3) p = 0 from by omega] at j
      unfold f_X6_judges
      simp (disch := omega) only [a1, a4, f_X6_judges_b22, f_X6_judges_b46, f_X6_judges_b47, f_X6_judges_b94, tw, a0, wt, ex2, ↓pu_m1, pu_i0, pu_i1, pu_i2, pu_i3, pu_i4, pu_i5, pu_i6, pu_i7, pu_i8, pu_i9, pu_i10, pu_i11, pu_i12, pu_i13, pu_i14, pu_i15, pu_i16, pu_i17, pu_i18, pu_i19, pu_i20, pu_i21, pu_i22, pu_i30, pu_i33, pu_i34, pu_i36, pu_i40, pu_i42, pu_i48, pu_i49, pu_i50, pu_i57, pu_i59, pu_i60, pu_i62, pu_i86, pu_i94, pu_i99, pu_i103, pu_i106, pu_i108, pu_i109, pu_i111, pu_i113, pu_i119, pu_i126, pu_i999, pu_bnd, pu_nm, pu_gd, pu_bnd2, pu_bxl, pu_bxr, pu_inb, pu_at, pu_put, pu_us, pu_un, pu_Rs, pu_Rn, pu_upS, pu_M1, pu_M2, pu_MS, pu_MM, pu_RR, pu_H1, pu_H2, nI_add, pk_mul, pk_sub, nI_clamp, nI_eq, nI_leI, nI_ltI, pu_in, pu_of, pu_lay, pu_ll, pu_il, pu_h0, pu_h1, pu_h2, pu_nI_mI, pu_mI_nI, pu_mm, pu_nn, pu_nI_le_mI, pu_nI_lt_mI, pu_mI_lt, pu_mI_le, pu_inW, pu_inO, if_pos, if_neg, ↓reduceIte]
      rw [nI_add] at j
      exact j
  · by_cases hz : 0 < m ∧ 0 < p
    · have hm0 := hmul 0 (by omega)
      rw [hw, if_neg (nI_nm (by omega)), if_neg (show ¬ m = 0 by omega), if_neg (show ¬ p = 0 by omega)] at tm
      refine ⟨0, s3, p, d, 1, 1, by omega, hs3, hb.2.1, hb.2.2.1, by omega, hk.2.1, hk.2.2.1, es3, rfl, ?_, ?_, lf _ hm0, hL _ hm0, ?_, Or.inl rfl⟩
      · unfold f_X0_ellsTooMuch
        rw [tm]
        simp (disch := omega) only [↓pu_m1, pu_i0, pu_i1, pu_i2, pu_i3, pu_i4, pu_i5, pu_i6, pu_i7, pu_i8, pu_i9, pu_i10, pu_i11, pu_i12, pu_i13, pu_i14, pu_i15, pu_i16, pu_i17, pu_i18, pu_i19, pu_i20, pu_i21, pu_i22, pu_i30, pu_i33, pu_i34, pu_i36, pu_i40, pu_i42, pu_i48, pu_i49, pu_i50, pu_i57, pu_i59, pu_i60, pu_i62, pu_i86, pu_i94, pu_i99, pu_i103, pu_i106, pu_i108, pu_i109, pu_i111, pu_i113, pu_i119, pu_i126, pu_i999, pu_bnd, pu_nm, pu_gd, pu_bnd2, pu_bxl, pu_bxr, pu_inb, pu_at, pu_put, pu_us, pu_un, pu_Rs, pu_Rn, pu_upS, pu_M1, pu_M2, pu_MS, pu_MM, pu_RR, pu_H1, pu_H2, nI_add, pk_mul, pk_sub, nI_clamp, nI_eq, nI_leI, nI_ltI, pu_in, pu_of, pu_lay, pu_ll, pu_il, pu_h0, pu_h1, pu_h2, pu_nI_mI, pu_mI_nI, pu_mm, pu_nn, pu_nI_le_mI, pu_nI_lt_mI, pu_mI_lt, pu_mI_le, pu_inW, pu_inO, if_pos, if_neg, ↓reduceIte]
      · unfold f_X0_paidByGuest
        rw [tm]
        simp (disch := omega) only [↓pu_m1, pu_i0, pu_i1, pu_i2, pu_i3, pu_i4, pu_i5, pu_i6, pu_i7, pu_i8, pu_i9, pu_i10, pu_i11, pu_i12, pu_i13, pu_i14, pu_i15, pu_i16, pu_i17, pu_i18, pu_i19, pu_i20, pu_i21, pu_i22, pu_i30, pu_i33, pu_i34, pu_i36, pu_i40, pu_i42, pu_i48, pu_i49, pu_i50, pu_i57, pu_i59, pu_i60, pu_i62, pu_i86, pu_i94, pu_i99, pu_i103, pu_i106, pu_i108, pu_i109, pu_i111, pu_i113, pu_i119, pu_i126, pu_i999, pu_bnd, pu_nm, pu_gd, pu_bnd2, pu_bxl, pu_bxr, pu_inb, pu_at, pu_put, pu_us, pu_un, pu_Rs, pu_Rn, pu_upS, pu_M1, pu_M2, pu_MS, pu_MM, pu_RR, pu_H1, pu_H2, nI_add, pk_mul, pk_sub, nI_clamp, nI_eq, nI_leI, nI_ltI, pu_in, pu_of, pu_lay, pu_ll, pu_il, pu_h0, pu_h1, pu_h2, pu_nI_mI, pu_mI_nI, pu_mm, pu_nn, pu_nI_le_mI, pu_nI_lt_mI, pu_mI_lt, pu_mI_le, pu_inW, pu_inO, if_pos, if_neg, ↓reduceIte]
      · rw [hw] at a4
        have j := t_J95 h (x := 1) (e := 0) hg hb.2.1 hs3 (by omega) (by omega) w3 a2 (Or.inl rfl)
        rw [if_neg (by omega)] at j
        unfold f_X6_judges
        simp (disch := omega) only [a1, a4, a5, f_X6_judges_b22, f_X6_judges_b46, f_X6_judges_b47, f_X6_judges_b94, tw, a0, wt, ex2, ↓pu_m1, pu_i0, pu_i1, pu_i2, pu_i3, pu_i4, pu_i5, pu_i6, pu_i7, pu_i8, pu_i9, pu_i10, pu_i11, pu_i12, pu_i13, pu_i14, pu_i15, pu_i16, pu_i17, pu_i18, pu_i19, pu_i20, pu_i21, pu_i22, pu_i30, pu_i33, pu_i34, pu_i36, pu_i40, pu_i42, pu_i48, pu_i49, pu_i50, pu_i57, pu_i59, pu_i60, pu_i62, pu_i86, pu_i94, pu_i99, pu_i103, pu_i106, pu_i108, pu_i109, pu_i111, pu_i113, pu_i119, pu_i126, pu_i999, pu_bnd, pu_nm, pu_gd, pu_bnd2, pu_bxl, pu_bxr, pu_inb, pu_at, pu_put, pu_us, pu_un, pu_Rs, pu_Rn, pu_upS, pu_M1, pu_M2, pu_MS, pu_MM, pu_RR, pu_H1, pu_H2, nI_add, pk_mul, pk_sub, nI_clamp, nI_eq, nI_leI, nI_ltI, pu_in, pu_of, pu_lay, pu_ll, pu_il, pu_h0, pu_h1, pu_h2, pu_nI_mI, pu_mI_nI, pu_mm, pu_nn, pu_nI_le_mI, pu_nI_lt_mI, pu_mI_lt, pu_mI_le, pu_inW, pu_inO, if_pos, if_neg, ↓reduceIte]
        rw [nI_add] at j
        exact j
    · have hm0 := hmul (y - x) (by omega)
      have tm0 : f_X0_passesMasked K (nI g) = some (nI 0) := by
        rw [tm, hw, if_neg (nI_nm (by omega))]
        by_cases q1 : m = 0
        · rw [if_pos q1]
        · rw [if_neg q1, if_pos (show p = 0 by omega)]
      refine ⟨y - x, s3, p, d, min ((y - x) * s3) p, min ((y - x) * s3) p, by omega, hs3, hb.2.1, hb.2.2.1, by omega, hk.2.1, hk.2.2.1, es3, rfl, ?_, ?_, lf _ hm0, hL _ hm0, ?_, Or.inr ⟨o, y, ho, hw, ho3, by omega, hy⟩⟩
      · unfold f_X0_ellsTooMuch
        rw [tm0, tl]
        simp (disch := omega) only [hk.1, et, ex1, pu_maxs, ↓pu_m1, pu_i0, pu_i1, pu_i2, pu_i3, pu_i4, pu_i5, pu_i6, pu_i7, pu_i8, pu_i9, pu_i10, pu_i11, pu_i12, pu_i13, pu_i14, pu_i15, pu_i16, pu_i17, pu_i18, pu_i19, pu_i20, pu_i21, pu_i22, pu_i30, pu_i33, pu_i34, pu_i36, pu_i40, pu_i42, pu_i48, pu_i49, pu_i50, pu_i57, pu_i59, pu_i60, pu_i62, pu_i86, pu_i94, pu_i99, pu_i103, pu_i106, pu_i108, pu_i109, pu_i111, pu_i113, pu_i119, pu_i126, pu_i999, pu_bnd, pu_nm, pu_gd, pu_bnd2, pu_bxl, pu_bxr, pu_inb, pu_at, pu_put, pu_us, pu_un, pu_Rs, pu_Rn, pu_upS, pu_M1, pu_M2, pu_MS, pu_MM, pu_RR, pu_H1, pu_H2, nI_add, pk_mul, pk_sub, nI_clamp, nI_eq, nI_leI, nI_ltI, pu_in, pu_of, pu_lay, pu_ll, pu_il, pu_h0, pu_h1, pu_h2, pu_nI_mI, pu_mI_nI, pu_mm, pu_nn, pu_nI_le_mI, pu_nI_lt_mI, pu_mI_lt, pu_mI_le, pu_inW, pu_inO, if_pos, if_neg, ↓reduceIte]
      · unfold f_X0_paidByGuest
        rw [tm0]
        simp (disch := omega) only [hk.2.1, pu_min, ↓pu_m1, pu_i0, pu_i1, pu_i2, pu_i3, pu_i4, pu_i5, pu_i6, pu_i7, pu_i8, pu_i9, pu_i10, pu_i11, pu_i12, pu_i13, pu_i14, pu_i15, pu_i16, pu_i17, pu_i18, pu_i19, pu_i20, pu_i21, pu_i22, pu_i30, pu_i33, pu_i34, pu_i36, pu_i40, pu_i42, pu_i48, pu_i49, pu_i50, pu_i57, pu_i59, pu_i60, pu_i62, pu_i86, pu_i94, pu_i99, pu_i103, pu_i106, pu_i108, pu_i109, pu_i111, pu_i113, pu_i119, pu_i126, pu_i999, pu_bnd, pu_nm, pu_gd, pu_bnd2, pu_bxl, pu_bxr, pu_inb, pu_at, pu_put, pu_us, pu_un, pu_Rs, pu_Rn, pu_upS, pu_M1, pu_M2, pu_MS, pu_MM, pu_RR, pu_H1, pu_H2, nI_add, pk_mul, pk_sub, nI_clamp, nI_eq, nI_leI, nI_ltI, pu_in, pu_of, pu_lay, pu_ll, pu_il, pu_h0, pu_h1, pu_h2, pu_nI_mI, pu_mI_nI, pu_mm, pu_nn, pu_nI_le_mI, pu_nI_lt_mI, pu_mI_lt, pu_mI_le, pu_inW, pu_inO, if_pos, if_neg, ↓reduceIte]
      · rw [hw] at a4
        have j := t_J95 h (x := 0) (e := y - x) hg hb.2.1 hs3 (by omega) (by omega) w3 a2 (Or.inr rfl)
        rw [if_pos rfl] at j
        have j47 : f_X6_judges_b47 M (nI g) (nI c) (nI p) (nI 1) (nI 0) = f_X6_judges_b95 M (nI g) (nI p) (nI 0) (nI (y - x)) := by
          unfold f_X6_judges_b47
          by_cases q : y ≤ x
          · have : nI y - nI x ≤ nI 0 := by
              rw [Int32.le_iff_toInt_le, pk_sub_toInt (by omega) (by omega), nI_toInt (by omega)]
              omega
            simp (disch := omega) only [tw, a0, wt, ex2, pu_bnd, pu_nm, pu_gd, pu_of, ↓pu_i0, pu_inb, nI_clamp, this, f_X6_judges_b94, ↓reduceIte, nI_eq, if_neg, ↓pu_i1, ↓pu_i2]
            rw [show y - x = 0 from by omega]
          · simp (disch := omega) only [tw, a0, wt, ex2, f_X6_judges_b94, ↓pu_m1, pu_i0, pu_i1, pu_i2, pu_i3, pu_i4, pu_i5, pu_i6, pu_i7, pu_i8, pu_i9, pu_i10, pu_i11, pu_i12, pu_i13, pu_i14, pu_i15, pu_i16, pu_i17, pu_i18, pu_i19, pu_i20, pu_i21, pu_i22, pu_i30, pu_i33, pu_i34, pu_i36, pu_i40, pu_i42, pu_i48, pu_i49, pu_i50, pu_i57, pu_i59, pu_i60, pu_i62, pu_i86, pu_i94, pu_i99, pu_i103, pu_i106, pu_i108, pu_i109, pu_i111, pu_i113, pu_i119, pu_i126, pu_i999, pu_bnd, pu_nm, pu_gd, pu_bnd2, pu_bxl, pu_bxr, pu_inb, pu_at, pu_put, pu_us, pu_un, pu_Rs, pu_Rn, pu_upS, pu_M1, pu_M2, pu_MS, pu_MM, pu_RR, pu_H1, pu_H2, nI_add, pk_mul, pk_sub, nI_clamp, nI_eq, nI_leI, nI_ltI, pu_in, pu_of, pu_lay, pu_ll, pu_il, pu_h0, pu_h1, pu_h2, pu_nI_mI, pu_mI_nI, pu_mm, pu_nn, pu_nI_le_mI, pu_nI_lt_mI, pu_mI_lt, pu_mI_le, pu_inW, pu_inO, if_pos, if_neg, ↓reduceIte]
        have j22 : f_X6_judges M (nI g) (nI c) = f_X6_judges_b47 M (nI g) (nI c) (nI p) (nI 1) (nI 0) := by
          unfold f_X6_judges
          by_cases q1 : m = 0
          · subst q1
            simp (disch := omega) only [a1, a4, a5, f_X6_judges_b22, f_X6_judges_b46, ↓pu_m1, pu_i0, pu_i1, pu_i2, pu_i3, pu_i4, pu_i5, pu_i6, pu_i7, pu_i8, pu_i9, pu_i10, pu_i11, pu_i12, pu_i13, pu_i14, pu_i15, pu_i16, pu_i17, pu_i18, pu_i19, pu_i20, pu_i21, pu_i22, pu_i30, pu_i33, pu_i34, pu_i36, pu_i40, pu_i42, pu_i48, pu_i49, pu_i50, pu_i57, pu_i59, pu_i60, pu_i62, pu_i86, pu_i94, pu_i99, pu_i103, pu_i106, pu_i108, pu_i109, pu_i111, pu_i113, pu_i119, pu_i126, pu_i999, pu_bnd, pu_nm, pu_gd, pu_bnd2, pu_bxl, pu_bxr, pu_inb, pu_at, pu_put, pu_us, pu_un, pu_Rs, pu_Rn, pu_upS, pu_M1, pu_M2, pu_MS, pu_MM, pu_RR, pu_H1, pu_H2, nI_add, pk_mul, pk_sub, nI_clamp, nI_eq, nI_leI, nI_ltI, pu_in, pu_of, pu_lay, pu_ll, pu_il, pu_h0, pu_h1, pu_h2, pu_nI_mI, pu_mI_nI, pu_mm, pu_nn, pu_nI_le_mI, pu_nI_lt_mI, pu_mI_lt, pu_mI_le, pu_inW, pu_inO, if_pos, if_neg, ↓reduceIte]
          · have q2 : p = 0 := by omega
            subst q2
            simp (disch := omega) only [a1, a4, a5, f_X6_judges_b22, f_X6_judges_b46, ↓pu_m1, pu_i0, pu_i1, pu_i2, pu_i3, pu_i4, pu_i5, pu_i6, pu_i7, pu_i8, pu_i9, pu_i10, pu_i11, pu_i12, pu_i13, pu_i14, pu_i15, pu_i16, pu_i17, pu_i18, pu_i19, pu_i20, pu_i21, pu_i22, pu_i30, pu_i33, pu_i34, pu_i36, pu_i40, pu_i42, pu_i48, pu_i49, pu_i50, pu_i57, pu_i59, pu_i60, pu_i62, pu_i86, pu_i94, pu_i99, pu_i103, pu_i106, pu_i108, pu_i109, pu_i111, pu_i113, pu_i119, pu_i126, pu_i999, pu_bnd, pu_nm, pu_gd, pu_bnd2, pu_bxl, pu_bxr, pu_inb, pu_at, pu_put, pu_us, pu_un, pu_Rs, pu_Rn, pu_upS, pu_M1, pu_M2, pu_MS, pu_MM, pu_RR, pu_H1, pu_H2, nI_add, pk_mul, pk_sub, nI_clamp, nI_eq, nI_leI, nI_ltI, pu_in, pu_of, pu_lay, pu_ll, pu_il, pu_h0, pu_h1, pu_h2, pu_nI_mI, pu_mI_nI, pu_mm, pu_nn, pu_nI_le_mI, pu_nI_lt_mI, pu_mI_lt, pu_mI_le, pu_inW, pu_inO, if_pos, if_neg, ↓reduceIte]
        rw [j22, j47, j]
