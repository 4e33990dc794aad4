/-! the pure part: the changes of a state, class and reference side by side -/
def FR (M M2 : MS) : Prop := (∀ k, 119 ≤ k → M2.1 0 k = M.1 0 k) ∧ M2.1 1 = M.1 1 ∧ ∀ q, 0 < q → q < 4 → M2.1 3 q = M.1 3 q
def FQ (M M2 : MS) : Prop := (∀ k, (119 ≤ k ∨ k = 8) → M2.1 0 k = M.1 0 k) ∧ M2.1 1 = M.1 1 ∧ M2.1 3 = M.1 3
theorem FQ.fr {M M2 : MS} (h : FQ M M2) : FR M M2 := ⟨fun k hk => h.1 k (Or.inl hk), h.2.1, fun q _ _ => by rw [h.2.2]⟩
theorem FQ.refl (M : MS) : FQ M M := ⟨fun _ _ => rfl, rfl, rfl⟩
theorem FQ.trans {M M2 M3 : MS} (h : FQ M M2) (h2 : FQ M2 M3) : FQ M M3 := ⟨fun k hk => by rw [h2.1 k hk, h.1 k hk], by rw [h2.2.1, h.2.1], by rw [h2.2.2, h.2.2]⟩
theorem FQ0 {M : MS} {s : Nat → Int32} (h : ∀ k, (119 ≤ k ∨ k = 8) → s k = M.1 0 k) : FQ M (upM M 0 s) := by
  refine ⟨?_, ?_, ?_⟩
  · rw [pu_M1, pu_Rs]
    exact h
  · rw [pu_M1, pu_Rn (by omega)]
  · rw [pu_M1, pu_Rn (by omega)]
theorem FQ2 (M : MS) (s : Nat → Int32) : FQ M (upM M 2 s) := by
  refine ⟨?_, ?_, ?_⟩
  · intro k hk
    rw [pu_M1, pu_Rn (by omega)]
  · rw [pu_M1, pu_Rn (by omega)]
  · rw [pu_M1, pu_Rn (by omega)]
theorem upd_comm {w : Nat → Int32} {a b : Nat} {x y : Int32} (h : a ≠ b) : upd (upd w a x) b y = upd (upd w b y) a x := by
  funext j
  by_cases h1 : j = a
  · rw [pu_un (by omega), pu_us h1, pu_us h1]
  · by_cases h2 : j = b
    · rw [pu_us h2, pu_un h1, pu_us h2]
    · rw [pu_un h2, pu_un h1, pu_un h1, pu_un h2]
theorem upd_same {w : Nat → Int32} {a : Nat} : upd w a (w a) = w := by
  funext j
  by_cases h : j = a
  · rw [pu_us h, h]
  · rw [pu_un h]
theorem o_mask {B n : Nat} {l : Nat → Nat} {K : RK} {M : MS} (h : Rel B n l K (M.1 0)) {g p : Nat} (hg : g < n) (h3 : 3 ≤ p) (hp : p ≤ 999) (ep : K 1 g = nI p) : ∃ (K2 : RK) (M2 : MS) (r : Int32), f_X0_takeMask K (nI g) = some K2 ∧ K2 1 g = r ∧ f_X6_masks M (nI g) = some (r, M2) ∧ Rel B n l K2 (M2.1 0) ∧ FQ M M2 := by
  have hn := h.n10
  obtain ⟨s4, hs4, es4⟩ := h.1.2.2.2.2.2.2.2.1
  obtain ⟨w0, w1, w2, w3, w4, w5, w6, w7, w8, w9, w10, w11, w12, w13, w14, w15⟩ := h.2.2.2.2.1
  rw [es4] at w14
  have a1 := (h.2.2.2.2.2.1 g hg).2.1
  rw [ep] at a1
  have P := P_r6 (P_s2 (P_r1 h hg (show p - 3 ≤ 999 by omega)) (K 11 1 + nI 3)) hg hs4
  simp (disch := omega) only [pu_Rn] at P
  refine ⟨upR (upR (upR K 1 (upd (K 1) g (nI (p - 3)))) 11 (upd (K 11) 1 (K 11 1 + nI 3))) 6 (upd (K 6) g (nI s4)), upM M 0 (upd (upd (upd (M.1 0) (16 + 7 * g + 1) (nI (p - 3))) 2 (K 11 1 + nI 3)) (16 + 7 * g + 5) (nI s4)), nI (p - 3), ?_, ?_, ?_, P, FQ0 ?_⟩
  · unfold f_X0_takeMask f_X1_payFromPurse
    simp (disch := omega) only [ep, es4, ↓pu_m1, pu_i0, pu_i1, pu_i2, pu_i3, pu_i4, pu_i5, pu_i6, pu_i7, pu_i8, pu_i9, pu_i10, pu_i11, pu_i12, pu_i13, pu_i14, pu_i15, pu_i16, pu_i17, pu_i18, pu_i19, pu_i20, pu_i21, pu_i22, pu_i30, pu_i33, pu_i34, pu_i36, pu_i40, pu_i42, pu_i48, pu_i49, pu_i50, pu_i57, pu_i59, pu_i60, pu_i62, pu_i86, pu_i94, pu_i99, pu_i103, pu_i106, pu_i108, pu_i109, pu_i111, pu_i113, pu_i119, pu_i126, pu_i999, pu_bnd, pu_nm, pu_gd, pu_bnd2, pu_bxl, pu_bxr, pu_inb, pu_at, pu_put, pu_us, pu_un, pu_Rs, pu_Rn, pu_upS, pu_M1, pu_M2, pu_MS, pu_MM, pu_RR, pu_H1, pu_H2, nI_add, pk_mul, pk_sub, nI_clamp, nI_eq, nI_leI, nI_ltI, pu_in, pu_of, pu_lay, pu_ll, pu_il, pu_h0, pu_h1, pu_h2, pu_nI_mI, pu_mI_nI, pu_mm, pu_nn, pu_nI_le_mI, pu_nI_lt_mI, pu_mI_lt, pu_mI_le, pu_inW, pu_inO, if_pos, if_neg, ↓reduceIte]
  · simp (disch := omega) only [↓pu_m1, pu_i0, pu_i1, pu_i2, pu_i3, pu_i4, pu_i5, pu_i6, pu_i7, pu_i8, pu_i9, pu_i10, pu_i11, pu_i12, pu_i13, pu_i14, pu_i15, pu_i16, pu_i17, pu_i18, pu_i19, pu_i20, pu_i21, pu_i22, pu_i30, pu_i33, pu_i34, pu_i36, pu_i40, pu_i42, pu_i48, pu_i49, pu_i50, pu_i57, pu_i59, pu_i60, pu_i62, pu_i86, pu_i94, pu_i99, pu_i103, pu_i106, pu_i108, pu_i109, pu_i111, pu_i113, pu_i119, pu_i126, pu_i999, pu_bnd, pu_nm, pu_gd, pu_bnd2, pu_bxl, pu_bxr, pu_inb, pu_at, pu_put, pu_us, pu_un, pu_Rs, pu_Rn, pu_upS, pu_M1, pu_M2, pu_MS, pu_MM, pu_RR, pu_H1, pu_H2, nI_add, pk_mul, pk_sub, nI_clamp, nI_eq, nI_leI, nI_ltI, pu_in, pu_of, pu_lay, pu_ll, pu_il, pu_h0, pu_h1, pu_h2, pu_nI_mI, pu_mI_nI, pu_mm, pu_nn, pu_nI_le_mI, pu_nI_lt_mI, pu_mI_lt, pu_mI_le, pu_inW, pu_inO, if_pos, if_neg, ↓reduceIte]
  · unfold f_X6_masks f_X6_paysToChest
    simp (disch := omega) only [a1, w2, w14, ↓pu_m1, pu_i0, pu_i1, pu_i2, pu_i3, pu_i4, pu_i5, pu_i6, pu_i7, pu_i8, pu_i9, pu_i10, pu_i11, pu_i12, pu_i13, pu_i14, pu_i15, pu_i16, pu_i17, pu_i18, pu_i19, pu_i20, pu_i21, pu_i22, pu_i30, pu_i33, pu_i34, pu_i36, pu_i40, pu_i42, pu_i48, pu_i49, pu_i50, pu_i57, pu_i59, pu_i60, pu_i62, pu_i86, pu_i94, pu_i99, pu_i103, pu_i106, pu_i108, pu_i109, pu_i111, pu_i113, pu_i119, pu_i126, pu_i999, pu_bnd, pu_nm, pu_gd, pu_bnd2, pu_bxl, pu_bxr, pu_inb, pu_at, pu_put, pu_us, pu_un, pu_Rs, pu_Rn, pu_upS, pu_M1, pu_M2, pu_MS, pu_MM, pu_RR, pu_H1, pu_H2, nI_add, pk_mul, pk_sub, nI_clamp, nI_eq, nI_leI, nI_ltI, pu_in, pu_of, pu_lay, pu_ll, pu_il, pu_h0, pu_h1, pu_h2, pu_nI_mI, pu_mI_nI, pu_mm, pu_nn, pu_nI_le_mI, pu_nI_lt_mI, pu_mI_lt, pu_mI_le, pu_inW, pu_inO, if_pos, if_neg, ↓reduceIte]
  · intro k hk
    simp (disch := omega) only [pu_un]
theorem o_pay {B n : Nat} {l : Nat → Nat} {K : RK} {M : MS} (h : Rel B n l K (M.1 0)) (hB : 360 * B < 2 ^ 30) {g : Nat} (hg : g < n) : ∃ (K2 : RK) (M2 : MS) (r : Int32), f_X0_payDebts K (nI g) = some K2 ∧ K2 2 g = r ∧ f_X6_pays M (nI g) = some (r, M2) ∧ Rel B n l K2 (M2.1 0) ∧ FQ M M2 := by
  have hn := h.n10
  obtain ⟨r, p, d, c, m, i, hb, hk, a0, a1, a2, a3, a4, a5, a6⟩ := h.gs hg
  obtain ⟨w0, w1, w2, w3, w4, w5, w6, w7, w8, w9, w10, w11, w12, w13, w14, w15⟩ := h.2.2.2.2.1
  have hm : min p d = min d p := Nat.min_comm p d
  have P := P_r2 (P_s2 (P_r1 h hg (show p - min d p ≤ 999 by omega)) (K 11 1 + nI (min d p))) hg (show d - min d p ≤ 360 * B by omega)
  simp (disch := omega) only [pu_Rn] at P
  refine ⟨upR (upR (upR K 1 (upd (K 1) g (nI (p - min d p)))) 11 (upd (K 11) 1 (K 11 1 + nI (min d p)))) 2 (upd (K 2) g (nI (d - min d p))), upM M 0 (upd (upd (upd (M.1 0) (16 + 7 * g + 1) (nI (p - min d p))) 2 (K 11 1 + nI (min d p))) (16 + 7 * g + 2) (nI (d - min d p))), nI (d - min d p), ?_, ?_, ?_, P, FQ0 ?_⟩
  · unfold f_X0_payDebts f_X1_payFromPurse
    simp (disch := omega) only [hk.2.1, hk.2.2.1, pu_min, ↓pu_m1, pu_i0, pu_i1, pu_i2, pu_i3, pu_i4, pu_i5, pu_i6, pu_i7, pu_i8, pu_i9, pu_i10, pu_i11, pu_i12, pu_i13, pu_i14, pu_i15, pu_i16, pu_i17, pu_i18, pu_i19, pu_i20, pu_i21, pu_i22, pu_i30, pu_i33, pu_i34, pu_i36, pu_i40, pu_i42, pu_i48, pu_i49, pu_i50, pu_i57, pu_i59, pu_i60, pu_i62, pu_i86, pu_i94, pu_i99, pu_i103, pu_i106, pu_i108, pu_i109, pu_i111, pu_i113, pu_i119, pu_i126, pu_i999, pu_bnd, pu_nm, pu_gd, pu_bnd2, pu_bxl, pu_bxr, pu_inb, pu_at, pu_put, pu_us, pu_un, pu_Rs, pu_Rn, pu_upS, pu_M1, pu_M2, pu_MS, pu_MM, pu_RR, pu_H1, pu_H2, nI_add, pk_mul, pk_sub, nI_clamp, nI_eq, nI_leI, nI_ltI, pu_in, pu_of, pu_lay, pu_ll, pu_il, pu_h0, pu_h1, pu_h2, pu_nI_mI, pu_mI_nI, pu_mm, pu_nn, pu_nI_le_mI, pu_nI_lt_mI, pu_mI_lt, pu_mI_le, pu_inW, pu_inO, if_pos, if_neg, ↓reduceIte]
  · simp (disch := omega) only [↓pu_m1, pu_i0, pu_i1, pu_i2, pu_i3, pu_i4, pu_i5, pu_i6, pu_i7, pu_i8, pu_i9, pu_i10, pu_i11, pu_i12, pu_i13, pu_i14, pu_i15, pu_i16, pu_i17, pu_i18, pu_i19, pu_i20, pu_i21, pu_i22, pu_i30, pu_i33, pu_i34, pu_i36, pu_i40, pu_i42, pu_i48, pu_i49, pu_i50, pu_i57, pu_i59, pu_i60, pu_i62, pu_i86, pu_i94, pu_i99, pu_i103, pu_i106, pu_i108, pu_i109, pu_i111, pu_i113, pu_i119, pu_i126, pu_i999, pu_bnd, pu_nm, pu_gd, pu_bnd2, pu_bxl, pu_bxr, pu_inb, pu_at, pu_put, pu_us, pu_un, pu_Rs, pu_Rn, pu_upS, pu_M1, pu_M2, pu_MS, pu_MM, pu_RR, pu_H1, pu_H2, nI_add, pk_mul, pk_sub, nI_clamp, nI_eq, nI_leI, nI_ltI, pu_in, pu_of, pu_lay, pu_ll, pu_il, pu_h0, pu_h1, pu_h2, pu_nI_mI, pu_mI_nI, pu_mm, pu_nn, pu_nI_le_mI, pu_nI_lt_mI, pu_mI_lt, pu_mI_le, pu_inW, pu_inO, if_pos, if_neg, ↓reduceIte]
  · unfold f_X6_pays f_X6_paysToChest
    simp (disch := omega) only [a1, a2, w2, pu_les, hm, ↓pu_m1, pu_i0, pu_i1, pu_i2, pu_i3, pu_i4, pu_i5, pu_i6, pu_i7, pu_i8, pu_i9, pu_i10, pu_i11, pu_i12, pu_i13, pu_i14, pu_i15, pu_i16, pu_i17, pu_i18, pu_i19, pu_i20, pu_i21, pu_i22, pu_i30, pu_i33, pu_i34, pu_i36, pu_i40, pu_i42, pu_i48, pu_i49, pu_i50, pu_i57, pu_i59, pu_i60, pu_i62, pu_i86, pu_i94, pu_i99, pu_i103, pu_i106, pu_i108, pu_i109, pu_i111, pu_i113, pu_i119, pu_i126, pu_i999, pu_bnd, pu_nm, pu_gd, pu_bnd2, pu_bxl, pu_bxr, pu_inb, pu_at, pu_put, pu_us, pu_un, pu_Rs, pu_Rn, pu_upS, pu_M1, pu_M2, pu_MS, pu_MM, pu_RR, pu_H1, pu_H2, nI_add, pk_mul, pk_sub, nI_clamp, nI_eq, nI_leI, nI_ltI, pu_in, pu_of, pu_lay, pu_ll, pu_il, pu_h0, pu_h1, pu_h2, pu_nI_mI, pu_mI_nI, pu_mm, pu_nn, pu_nI_le_mI, pu_nI_lt_mI, pu_mI_lt, pu_mI_le, pu_inW, pu_inO, if_pos, if_neg, ↓reduceIte]
  · intro k hk
    simp (disch := omega) only [pu_un]
theorem o_lend {B n : Nat} {l : Nat → Nat} {K : RK} {M : MS} (h : Rel B n l K (M.1 0)) {a b : Nat} (ha : a < n) (hb : b < n) (hab : a ≠ b) (h1 : K 4 a = mI) (h2 : K 5 a = mI) (h3 : K 4 b = mI) : ∃ (K2 : RK) (M2 : MS) (r : Int32), f_X1_lendCoat K (nI a) (nI b) = some K2 ∧ K2 3 a = r ∧ f_X6_lends M (nI a) (nI b) = some (r, M2) ∧ Rel B n l K2 (M2.1 0) ∧ FQ M M2 := by
  have hn := h.n10
  have a3 := (h.2.2.2.2.2.1 a ha).2.2.2.1
  have P := P_lend h ha hb hab h1 h2 h3
  refine ⟨upR (upR K 5 (upd (K 5) a (nI b))) 4 (upd (K 4) b (nI a)), upM M 0 (upd (upd (M.1 0) (16 + 7 * a + 4) mI) (16 + 7 * b + 4) (nI a)), K 3 a, ?_, ?_, ?_, P, FQ0 ?_⟩
  · unfold f_X1_lendCoat
    simp (disch := omega) only [↓pu_m1, pu_i0, pu_i1, pu_i2, pu_i3, pu_i4, pu_i5, pu_i6, pu_i7, pu_i8, pu_i9, pu_i10, pu_i11, pu_i12, pu_i13, pu_i14, pu_i15, pu_i16, pu_i17, pu_i18, pu_i19, pu_i20, pu_i21, pu_i22, pu_i30, pu_i33, pu_i34, pu_i36, pu_i40, pu_i42, pu_i48, pu_i49, pu_i50, pu_i57, pu_i59, pu_i60, pu_i62, pu_i86, pu_i94, pu_i99, pu_i103, pu_i106, pu_i108, pu_i109, pu_i111, pu_i113, pu_i119, pu_i126, pu_i999, pu_bnd, pu_nm, pu_gd, pu_bnd2, pu_bxl, pu_bxr, pu_inb, pu_at, pu_put, pu_us, pu_un, pu_Rs, pu_Rn, pu_upS, pu_M1, pu_M2, pu_MS, pu_MM, pu_RR, pu_H1, pu_H2, nI_add, pk_mul, pk_sub, nI_clamp, nI_eq, nI_leI, nI_ltI, pu_in, pu_of, pu_lay, pu_ll, pu_il, pu_h0, pu_h1, pu_h2, pu_nI_mI, pu_mI_nI, pu_mm, pu_nn, pu_nI_le_mI, pu_nI_lt_mI, pu_mI_lt, pu_mI_le, pu_inW, pu_inO, if_pos, if_neg, ↓reduceIte]
  · simp (disch := omega) only [↓pu_m1, pu_i0, pu_i1, pu_i2, pu_i3, pu_i4, pu_i5, pu_i6, pu_i7, pu_i8, pu_i9, pu_i10, pu_i11, pu_i12, pu_i13, pu_i14, pu_i15, pu_i16, pu_i17, pu_i18, pu_i19, pu_i20, pu_i21, pu_i22, pu_i30, pu_i33, pu_i34, pu_i36, pu_i40, pu_i42, pu_i48, pu_i49, pu_i50, pu_i57, pu_i59, pu_i60, pu_i62, pu_i86, pu_i94, pu_i99, pu_i103, pu_i106, pu_i108, pu_i109, pu_i111, pu_i113, pu_i119, pu_i126, pu_i999, pu_bnd, pu_nm, pu_gd, pu_bnd2, pu_bxl, pu_bxr, pu_inb, pu_at, pu_put, pu_us, pu_un, pu_Rs, pu_Rn, pu_upS, pu_M1, pu_M2, pu_MS, pu_MM, pu_RR, pu_H1, pu_H2, nI_add, pk_mul, pk_sub, nI_clamp, nI_eq, nI_leI, nI_ltI, pu_in, pu_of, pu_lay, pu_ll, pu_il, pu_h0, pu_h1, pu_h2, pu_nI_mI, pu_mI_nI, pu_mm, pu_nn, pu_nI_le_mI, pu_nI_lt_mI, pu_mI_lt, pu_mI_le, pu_inW, pu_inO, if_pos, if_neg, ↓reduceIte]
  · unfold f_X6_lends
    simp (disch := omega) only [a3, ↓pu_m1, pu_i0, pu_i1, pu_i2, pu_i3, pu_i4, pu_i5, pu_i6, pu_i7, pu_i8, pu_i9, pu_i10, pu_i11, pu_i12, pu_i13, pu_i14, pu_i15, pu_i16, pu_i17, pu_i18, pu_i19, pu_i20, pu_i21, pu_i22, pu_i30, pu_i33, pu_i34, pu_i36, pu_i40, pu_i42, pu_i48, pu_i49, pu_i50, pu_i57, pu_i59, pu_i60, pu_i62, pu_i86, pu_i94, pu_i99, pu_i103, pu_i106, pu_i108, pu_i109, pu_i111, pu_i113, pu_i119, pu_i126, pu_i999, pu_bnd, pu_nm, pu_gd, pu_bnd2, pu_bxl, pu_bxr, pu_inb, pu_at, pu_put, pu_us, pu_un, pu_Rs, pu_Rn, pu_upS, pu_M1, pu_M2, pu_MS, pu_MM, pu_RR, pu_H1, pu_H2, nI_add, pk_mul, pk_sub, nI_clamp, nI_eq, nI_leI, nI_ltI, pu_in, pu_of, pu_lay, pu_ll, pu_il, pu_h0, pu_h1, pu_h2, pu_nI_mI, pu_mI_nI, pu_mm, pu_nn, pu_nI_le_mI, pu_nI_lt_mI, pu_mI_lt, pu_mI_le, pu_inW, pu_inO, if_pos, if_neg, ↓reduceIte]
  · intro k hk
    simp (disch := omega) only [pu_un]
def gbR (M : MS) (x1 : Int32) : Option (Int32 × MS) := bnd (f_X6_of M x1 4) (fun r4 => bnd (f_X6_isBorrowed M r4) (fun r5 => (if r5 = 0 then f_X6_giveBack_b68 M x1 r4 r4 4 r4 else bnd (f_X6_of M r4 4) (fun r6 => f_X6_giveBack_b68 M x1 r4 r6 4 r4))))
theorem o_back {B n : Nat} {l : Nat → Nat} {K : RK} {M : MS} (h : Rel B n l K (M.1 0)) {g o : Nat} (hg : g < n) (ho : o < 10) (h4 : K 4 g = nI o) : ∃ (K2 : RK) (M2 : MS), f_X1_returnCoat K (nI g) = some (nI o, K2) ∧ gbR M (nI g) = some (nI o, M2) ∧ Rel B n l K2 (M2.1 0) ∧ FQ M M2 := by
  have hn := h.n10
  obtain ⟨ho2, hne, h5⟩ := h.2.2.1.ne hn hg h4 ho
  have P := P_back h hg ho h4
  have a4 := (h.2.2.2.2.2.1 g hg).2.2.2.2.1
  have b4 := (h.2.2.2.2.2.1 o ho2).2.2.2.2.1
  have ew : wc K g = nI o := by
    unfold wc
    rw [h4, if_neg (by rw [pu_nI_mI (by omega)]; exact fun q => q)]
  rw [ew] at a4
  have a1 : M.1 0 1 = nI n := by rw [h.2.2.2.2.1.2.1, h.1.2.1]
  have eo : (if K 4 o = mI then nI o else K 4 o) = (if K 4 o = mI then nI o else wc K o) := by
    by_cases q : K 4 o = mI
    · rw [if_pos q, if_pos q]
    · rw [if_neg q, if_neg q]
      unfold wc
      rw [if_neg q]
  have tb := t_bor h ho2
  have PC := P.2.2.1
  have PG := P.2.2.2.2.2.1
  have e5 : upR (upR K 4 (upd (K 4) g mI)) 5 (upd (K 5) o mI) 5 g = K 5 g := by
    rw [pu_Rs, pu_un (by omega)]
  refine ⟨upR (upR K 4 (upd (K 4) g mI)) 5 (upd (K 5) o mI), upM M 0 (upd (upd (M.1 0) (16 + 7 * o + 4) (if K 4 o = mI then nI o else K 4 o)) (16 + 7 * g + 4) (if K 5 g = mI then nI g else mI)), ?_, ?_, P, FQ0 ?_⟩
  · unfold f_X1_returnCoat
    simp (disch := omega) only [h4, ↓pu_m1, pu_i0, pu_i1, pu_i2, pu_i3, pu_i4, pu_i5, pu_i6, pu_i7, pu_i8, pu_i9, pu_i10, pu_i11, pu_i12, pu_i13, pu_i14, pu_i15, pu_i16, pu_i17, pu_i18, pu_i19, pu_i20, pu_i21, pu_i22, pu_i30, pu_i33, pu_i34, pu_i36, pu_i40, pu_i42, pu_i48, pu_i49, pu_i50, pu_i57, pu_i59, pu_i60, pu_i62, pu_i86, pu_i94, pu_i99, pu_i103, pu_i106, pu_i108, pu_i109, pu_i111, pu_i113, pu_i119, pu_i126, pu_i999, pu_bnd, pu_nm, pu_gd, pu_bnd2, pu_bxl, pu_bxr, pu_inb, pu_at, pu_put, pu_us, pu_un, pu_Rs, pu_Rn, pu_upS, pu_M1, pu_M2, pu_MS, pu_MM, pu_RR, pu_H1, pu_H2, nI_add, pk_mul, pk_sub, nI_clamp, nI_eq, nI_leI, nI_ltI, pu_in, pu_of, pu_lay, pu_ll, pu_il, pu_h0, pu_h1, pu_h2, pu_nI_mI, pu_mI_nI, pu_mm, pu_nn, pu_nI_le_mI, pu_nI_lt_mI, pu_mI_lt, pu_mI_le, pu_inW, pu_inO, if_pos, if_neg, ↓reduceIte]
  · have key : ∀ x : Int32, x = (if K 4 o = mI then nI o else K 4 o) → f_X6_giveBack_b68 M (nI g) (nI o) x 4 (nI o) = some (nI o, upM M 0 (upd (upd (M.1 0) (16 + 7 * o + 4) x) (16 + 7 * g + 4) (if K 5 g = mI then nI g else mI))) := by
      intro x hx
      have tl : f_X6_lentTo (upM M 0 (upd (upd (M.1 0) (16 + 7 * o + 4) x) (16 + 7 * g + 4) mI)) (nI g) = some (K 5 g) := by
        rw [← e5]
        unfold f_X6_lentTo
        refine t_lent_l hn PC ?_ hg ?_ n 0 fuelN (by omega) (by unfold fuelN; omega) (fun j hj => absurd hj (by omega))
        · rw [pu_M1, pu_Rs, pu_un (by omega), pu_un (by omega)]
          exact a1
        · intro j hj hjg
          have := (PG j hj).2.2.2.2.1
          rw [pu_un (by omega), ← hx] at this
          rw [pu_M1, pu_Rs, pu_un (by omega)]
          exact this
      unfold f_X6_giveBack_b68
      by_cases q : K 5 g = mI
      · simp (disch := omega) only [tl, q, f_X6_giveBack_b95, ↓pu_m1, pu_i0, pu_i1, pu_i2, pu_i3, pu_i4, pu_i5, pu_i6, pu_i7, pu_i8, pu_i9, pu_i10, pu_i11, pu_i12, pu_i13, pu_i14, pu_i15, pu_i16, pu_i17, pu_i18, pu_i19, pu_i20, pu_i21, pu_i22, pu_i30, pu_i33, pu_i34, pu_i36, pu_i40, pu_i42, pu_i48, pu_i49, pu_i50, pu_i57, pu_i59, pu_i60, pu_i62, pu_i86, pu_i94, pu_i99, pu_i103, pu_i106, pu_i108, pu_i109, pu_i111, pu_i113, pu_i119, pu_i126, pu_i999, pu_bnd, pu_nm, pu_gd, pu_bnd2, pu_bxl, pu_bxr, pu_inb, pu_at, pu_put, pu_us, pu_un, pu_Rs, pu_Rn, pu_upS, pu_M1, pu_M2, pu_MS, pu_MM, pu_RR, pu_H1, pu_H2, nI_add, pk_mul, pk_sub, nI_clamp, nI_eq, nI_leI, nI_ltI, pu_in, pu_of, pu_lay, pu_ll, pu_il, pu_h0, pu_h1, pu_h2, pu_nI_mI, pu_mI_nI, pu_mm, pu_nn, pu_nI_le_mI, pu_nI_lt_mI, pu_mI_lt, pu_mI_le, pu_inW, pu_inO, if_pos, if_neg, ↓reduceIte]
        rw [upd_comm (show 16 + 7 * o + 4 ≠ 16 + 7 * g + 4 by omega), upd_comm (show 16 + 7 * o + 4 ≠ 16 + 7 * g + 4 by omega)]
        congr 3
        funext j
        by_cases z : j = 16 + 7 * o + 4
        · simp (disch := omega) only [pu_us, pu_un]
        · by_cases z2 : j = 16 + 7 * g + 4
          · simp (disch := omega) only [pu_us, pu_un]
          · simp (disch := omega) only [pu_us, pu_un]
      · simp (disch := omega) only [tl, q, f_X6_giveBack_b95, ↓pu_m1, pu_i0, pu_i1, pu_i2, pu_i3, pu_i4, pu_i5, pu_i6, pu_i7, pu_i8, pu_i9, pu_i10, pu_i11, pu_i12, pu_i13, pu_i14, pu_i15, pu_i16, pu_i17, pu_i18, pu_i19, pu_i20, pu_i21, pu_i22, pu_i30, pu_i33, pu_i34, pu_i36, pu_i40, pu_i42, pu_i48, pu_i49, pu_i50, pu_i57, pu_i59, pu_i60, pu_i62, pu_i86, pu_i94, pu_i99, pu_i103, pu_i106, pu_i108, pu_i109, pu_i111, pu_i113, pu_i119, pu_i126, pu_i999, pu_bnd, pu_nm, pu_gd, pu_bnd2, pu_bxl, pu_bxr, pu_inb, pu_at, pu_put, pu_us, pu_un, pu_Rs, pu_Rn, pu_upS, pu_M1, pu_M2, pu_MS, pu_MM, pu_RR, pu_H1, pu_H2, nI_add, pk_mul, pk_sub, nI_clamp, nI_eq, nI_leI, nI_ltI, pu_in, pu_of, pu_lay, pu_ll, pu_il, pu_h0, pu_h1, pu_h2, pu_nI_mI, pu_mI_nI, pu_mm, pu_nn, pu_nI_le_mI, pu_nI_lt_mI, pu_mI_lt, pu_mI_le, pu_inW, pu_inO, if_pos, if_neg, ↓reduceIte]
        congr 3
        funext j
        by_cases z : j = 16 + 7 * o + 4
        · simp (disch := omega) only [pu_us, pu_un]
        · by_cases z2 : j = 16 + 7 * g + 4
          · simp (disch := omega) only [pu_us, pu_un]
          · simp (disch := omega) only [pu_us, pu_un]
    unfold gbR
    by_cases q : K 4 o = mI
    · have k1 := key (nI o) (by rw [if_pos q])
      rw [if_pos q] at tb
      rw [if_pos q]
      simp (disch := omega) only [pu_i4, pu_of, a4, pu_bnd, tb, pu_i0, if_pos]
      rw [← k1]
      rfl
    · have k1 := key (K 4 o) (by rw [if_neg q])
      have b4' : M.1 0 (16 + 7 * o + 4) = K 4 o := by
        rw [b4]
        unfold wc
        rw [if_neg q]
      rw [if_neg q] at tb
      rw [if_neg q]
      simp (disch := omega) only [pu_i4, pu_of, a4, pu_bnd, tb, pu_i0, nI_eq, if_neg, b4']
      rw [← k1]
      rfl
  · intro k hk
    simp (disch := omega) only [pu_un]
theorem o_queue {B n : Nat} {l : Nat → Nat} {K : RK} {M : MS} (h : Rel B n l K (M.1 0)) {g c : Nat} (hg : g < n) (hc : c < 3) (hno : nInL l K g) : ∃ (K2 : RK) (M2 : MS) (l2 : Nat → Nat) (r : Int32), f_X3_enter K (nI g) (nI c) = some (r, K2) ∧ f_X6_queues M (nI g) (nI c) = some (r, M2) ∧ Rel B n l2 K2 (M2.1 0) ∧ FQ M M2 := by
  have hn := h.n10
  obtain ⟨hl, P⟩ := P_enter h hc hg hno
  have a1 := (h.2.2.2.2.2.2 c hc).1
  have a9 := h.2.2.2.1.1 c hc
  refine ⟨upR (upR K 8 (upd (K 8) (c * 10 + l c) (nI g))) 9 (upd (K 9) c (nI (l c + 1))), upM M 0 (upd (upd (M.1 0) (86 + 11 * c) (nI (l c + 1))) (86 + 11 * c + (l c + 1)) (nI g)), _, nI (l c), ?_, ?_, P, FQ0 ?_⟩
  · unfold f_X3_enter
    simp (disch := omega) only [a9, ↓pu_m1, pu_i0, pu_i1, pu_i2, pu_i3, pu_i4, pu_i5, pu_i6, pu_i7, pu_i8, pu_i9, pu_i10, pu_i11, pu_i12, pu_i13, pu_i14, pu_i15, pu_i16, pu_i17, pu_i18, pu_i19, pu_i20, pu_i21, pu_i22, pu_i30, pu_i33, pu_i34, pu_i36, pu_i40, pu_i42, pu_i48, pu_i49, pu_i50, pu_i57, pu_i59, pu_i60, pu_i62, pu_i86, pu_i94, pu_i99, pu_i103, pu_i106, pu_i108, pu_i109, pu_i111, pu_i113, pu_i119, pu_i126, pu_i999, pu_bnd, pu_nm, pu_gd, pu_bnd2, pu_bxl, pu_bxr, pu_inb, pu_at, pu_put, pu_us, pu_un, pu_Rs, pu_Rn, pu_upS, pu_M1, pu_M2, pu_MS, pu_MM, pu_RR, pu_H1, pu_H2, nI_add, pk_mul, pk_sub, nI_clamp, nI_eq, nI_leI, nI_ltI, pu_in, pu_of, pu_lay, pu_ll, pu_il, pu_h0, pu_h1, pu_h2, pu_nI_mI, pu_mI_nI, pu_mm, pu_nn, pu_nI_le_mI, pu_nI_lt_mI, pu_mI_lt, pu_mI_le, pu_inW, pu_inO, if_pos, if_neg, ↓reduceIte]
  · unfold f_X6_queues
    simp (disch := omega) only [a1, Nat.add_sub_cancel, ↓pu_m1, pu_i0, pu_i1, pu_i2, pu_i3, pu_i4, pu_i5, pu_i6, pu_i7, pu_i8, pu_i9, pu_i10, pu_i11, pu_i12, pu_i13, pu_i14, pu_i15, pu_i16, pu_i17, pu_i18, pu_i19, pu_i20, pu_i21, pu_i22, pu_i30, pu_i33, pu_i34, pu_i36, pu_i40, pu_i42, pu_i48, pu_i49, pu_i50, pu_i57, pu_i59, pu_i60, pu_i62, pu_i86, pu_i94, pu_i99, pu_i103, pu_i106, pu_i108, pu_i109, pu_i111, pu_i113, pu_i119, pu_i126, pu_i999, pu_bnd, pu_nm, pu_gd, pu_bnd2, pu_bxl, pu_bxr, pu_inb, pu_at, pu_put, pu_us, pu_un, pu_Rs, pu_Rn, pu_upS, pu_M1, pu_M2, pu_MS, pu_MM, pu_RR, pu_H1, pu_H2, nI_add, pk_mul, pk_sub, nI_clamp, nI_eq, nI_leI, nI_ltI, pu_in, pu_of, pu_lay, pu_ll, pu_il, pu_h0, pu_h1, pu_h2, pu_nI_mI, pu_mI_nI, pu_mm, pu_nn, pu_nI_le_mI, pu_nI_lt_mI, pu_mI_lt, pu_mI_le, pu_inW, pu_inO, if_pos, if_neg, ↓reduceIte]
  · intro k hk
    simp (disch := omega) only [pu_un]
def enR (M : MS) (x1 x2 : Int32) : Option (Int32 × MS) := bnd (f_X6_of M x1 1) (fun r4 => bnd (f_X6_lesser x2 (999 - r4)) (fun r5 => bnd (f_X6_of M x1 1) (fun r6 => bnd (f_X6_lay M x1 1 (r6 + r5)) (fun M7 => gd (inb 4 952) (nm (M7.1 0 (4 : Int32).toNatClampNeg) (fun v8 => gd (inb 4 952) (nm (upM M7 0 (upd (M7.1 0) (4 : Int32).toNatClampNeg (v8 + r5))) (fun M9 => bnd (f_X6_of M9 x1 1) (fun r10 => some (r10, M9))))))))))
theorem o_earn {B n : Nat} {l : Nat → Nat} {K : RK} {M : MS} (h : Rel B n l K (M.1 0)) {g v : Nat} (hg : g < n) (hv : v ≤ 99) : ∃ (K2 : RK) (M2 : MS) (r : Int32), f_X0_giveWages K (nI g) (nI v) = some (r, K2) ∧ enR M (nI g) (nI v) = some (r, M2) ∧ Rel B n l K2 (M2.1 0) ∧ FQ M M2 := by
  have hn := h.n10
  obtain ⟨r, p, d, c, m, i, hb, hk, a0, a1, a2, a3, a4, a5, a6⟩ := h.gs hg
  obtain ⟨w0, w1, w2, w3, w4, w5, w6, w7, w8, w9, w10, w11, w12, w13, w14, w15⟩ := h.2.2.2.2.1
  have hb2 := hb.2.1
  have e1 : p + min v (999 - p) = min (p + v) 999 := by omega
  have e2 : min (p + v) 999 - p = min v (999 - p) := by omega
  have P := P_s4 (P_r1 h hg (show min (p + v) 999 ≤ 999 by omega)) (K 11 3 + nI (min v (999 - p)))
  simp (disch := omega) only [pu_Rn] at P
  refine ⟨upR (upR K 1 (upd (K 1) g (nI (min (p + v) 999)))) 11 (upd (K 11) 3 (K 11 3 + nI (min v (999 - p)))), upM M 0 (upd (upd (M.1 0) (16 + 7 * g + 1) (nI (min (p + v) 999))) 4 (K 11 3 + nI (min v (999 - p)))), nI (min (p + v) 999), ?_, ?_, P, FQ0 ?_⟩
  · unfold f_X0_giveWages
    simp (disch := omega) only [hk.2.1, pu_min, e2, ↓pu_m1, pu_i0, pu_i1, pu_i2, pu_i3, pu_i4, pu_i5, pu_i6, pu_i7, pu_i8, pu_i9, pu_i10, pu_i11, pu_i12, pu_i13, pu_i14, pu_i15, pu_i16, pu_i17, pu_i18, pu_i19, pu_i20, pu_i21, pu_i22, pu_i30, pu_i33, pu_i34, pu_i36, pu_i40, pu_i42, pu_i48, pu_i49, pu_i50, pu_i57, pu_i59, pu_i60, pu_i62, pu_i86, pu_i94, pu_i99, pu_i103, pu_i106, pu_i108, pu_i109, pu_i111, pu_i113, pu_i119, pu_i126, pu_i999, pu_bnd, pu_nm, pu_gd, pu_bnd2, pu_bxl, pu_bxr, pu_inb, pu_at, pu_put, pu_us, pu_un, pu_Rs, pu_Rn, pu_upS, pu_M1, pu_M2, pu_MS, pu_MM, pu_RR, pu_H1, pu_H2, nI_add, pk_mul, pk_sub, nI_clamp, nI_eq, nI_leI, nI_ltI, pu_in, pu_of, pu_lay, pu_ll, pu_il, pu_h0, pu_h1, pu_h2, pu_nI_mI, pu_mI_nI, pu_mm, pu_nn, pu_nI_le_mI, pu_nI_lt_mI, pu_mI_lt, pu_mI_le, pu_inW, pu_inO, if_pos, if_neg, ↓reduceIte]
  · unfold enR
    simp (disch := omega) only [a1, pu_les, e1, w4, ↓pu_m1, pu_i0, pu_i1, pu_i2, pu_i3, pu_i4, pu_i5, pu_i6, pu_i7, pu_i8, pu_i9, pu_i10, pu_i11, pu_i12, pu_i13, pu_i14, pu_i15, pu_i16, pu_i17, pu_i18, pu_i19, pu_i20, pu_i21, pu_i22, pu_i30, pu_i33, pu_i34, pu_i36, pu_i40, pu_i42, pu_i48, pu_i49, pu_i50, pu_i57, pu_i59, pu_i60, pu_i62, pu_i86, pu_i94, pu_i99, pu_i103, pu_i106, pu_i108, pu_i109, pu_i111, pu_i113, pu_i119, pu_i126, pu_i999, pu_bnd, pu_nm, pu_gd, pu_bnd2, pu_bxl, pu_bxr, pu_inb, pu_at, pu_put, pu_us, pu_un, pu_Rs, pu_Rn, pu_upS, pu_M1, pu_M2, pu_MS, pu_MM, pu_RR, pu_H1, pu_H2, nI_add, pk_mul, pk_sub, nI_clamp, nI_eq, nI_leI, nI_ltI, pu_in, pu_of, pu_lay, pu_ll, pu_il, pu_h0, pu_h1, pu_h2, pu_nI_mI, pu_mI_nI, pu_mm, pu_nn, pu_nI_le_mI, pu_nI_lt_mI, pu_mI_lt, pu_mI_le, pu_inW, pu_inO, if_pos, if_neg, ↓reduceIte]
  · intro k hk
    simp (disch := omega) only [pu_un]
theorem o_open0 {B n : Nat} {l : Nat → Nat} {K : RK} {w : Nat → Int32} (h : Rel B n l K w) {c : Nat} (hc : c < 3) (h0 : l c = 0) : f_X0_openOnce K (nI c) = some (nI 0, K) := by
  have a9 := h.2.2.2.1.1 c hc
  rw [h0] at a9
  unfold f_X0_openOnce f_X3_takeFirst f_X1_has
  simp (disch := omega) only [a9, ↓pu_m1, pu_i0, pu_i1, pu_i2, pu_i3, pu_i4, pu_i5, pu_i6, pu_i7, pu_i8, pu_i9, pu_i10, pu_i11, pu_i12, pu_i13, pu_i14, pu_i15, pu_i16, pu_i17, pu_i18, pu_i19, pu_i20, pu_i21, pu_i22, pu_i30, pu_i33, pu_i34, pu_i36, pu_i40, pu_i42, pu_i48, pu_i49, pu_i50, pu_i57, pu_i59, pu_i60, pu_i62, pu_i86, pu_i94, pu_i99, pu_i103, pu_i106, pu_i108, pu_i109, pu_i111, pu_i113, pu_i119, pu_i126, pu_i999, pu_bnd, pu_nm, pu_gd, pu_bnd2, pu_bxl, pu_bxr, pu_inb, pu_at, pu_put, pu_us, pu_un, pu_Rs, pu_Rn, pu_upS, pu_M1, pu_M2, pu_MS, pu_MM, pu_RR, pu_H1, pu_H2, nI_add, pk_mul, pk_sub, nI_clamp, nI_eq, nI_leI, nI_ltI, pu_in, pu_of, pu_lay, pu_ll, pu_il, pu_h0, pu_h1, pu_h2, pu_nI_mI, pu_mI_nI, pu_mm, pu_nn, pu_nI_le_mI, pu_nI_lt_mI, pu_mI_lt, pu_mI_le, pu_inW, pu_inO, if_pos, if_neg, ↓reduceIte]
