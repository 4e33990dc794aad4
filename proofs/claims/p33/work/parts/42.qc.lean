/-! the pure part of p33: ells, fines, gates, nights, shares -/
def alN (K : RK) (c r t : Nat) : Nat := al (nk K 10 0) (nk K 10 1) (nk K 10 2) c r t
theorem e_allowed {B n : Nat} {l : Nat → Nat} {K : RK} (h : Ra B n l K) (hB : 360 * B < 2 ^ 30) {c r t : Nat} (hc : c < 3) (hr : r ≤ 4) (ht : t < 2 ^ 31) : f_X0_allowedElls K (nI c) (nI r) (nI t) = some (nI (alN K c r t)) ∧ alN K c r t ≤ 100 := by
  obtain ⟨-, ⟨e0, h0⟩, ⟨e1, h1⟩, ⟨e2, h2⟩, -⟩ := h.t hB
  have hm : nk K 10 1 * r ≤ 10 * 4 := Nat.mul_le_mul h1 hr
  have hm2 : t % 3 * nk K 10 2 ≤ 2 * 9 := Nat.mul_le_mul (by omega) h2
  have ec : (nI t - nI t / nI 3 * nI 3) = nI (t % 3) := pk_rem ht (by omega) (by omega)
  unfold f_X0_allowedElls alN al
  rcases (show c = 0 ∨ c = 1 ∨ c = 2 by omega) with e | e | e <;> subst e
  · refine ⟨?_, ?_⟩
    · rw [if_neg (show ¬ (0 : Nat) = 1 by omega), if_neg (show ¬ (0 : Nat) = 2 by omega)]
      simp (disch := omega) only [e0, e1, ↓pu_m1, pu_i0, pu_i1, pu_i2, pu_i3, pu_i4, pu_i5, pu_i6, pu_i7, pu_i8, pu_i9, pu_i10, pu_i11, pu_i12, pu_i13, pu_i14, pu_i15, pu_i16, pu_i17, pu_i18, pu_i19, pu_i20, pu_i21, pu_i22, pu_i23, pu_i30, pu_i33, pu_i34, pu_i35, pu_i36, pu_i40, pu_i41, pu_i42, pu_i45, pu_i46, pu_i48, pu_i49, pu_i50, pu_i57, pu_i59, pu_i60, pu_i62, pu_i66, pu_i86, pu_i94, pu_i99, pu_i100, pu_i103, pu_i106, pu_i108, pu_i109, pu_i111, pu_i113, pu_i119, pu_i126, pu_i999, pu_bnd, pu_nm, pu_gd, pu_bnd2, pu_inb, pu_at, pu_put, pu_us, pu_un, pu_Rs, pu_Rn, pu_upS, pu_RR, nI_add, pk_mul, pk_sub, nI_clamp, nI_eq, nI_leI, nI_ltI, pu_nI_mI, pu_mI_nI, pu_mm, pu_nn, pu_nI_le_mI, pu_nI_lt_mI, pu_mI_lt, pu_mI_le, pu_inW, pu_inO, if_pos, if_neg, ↓reduceIte, pu_bnd3]
    · rw [if_neg (show ¬ (0 : Nat) = 1 by omega), if_neg (show ¬ (0 : Nat) = 2 by omega)]
      omega
  · refine ⟨?_, ?_⟩
    · rw [if_pos rfl]
      simp (disch := omega) only [e0, e1, pu_maxs, ↓pu_m1, pu_i0, pu_i1, pu_i2, pu_i3, pu_i4, pu_i5, pu_i6, pu_i7, pu_i8, pu_i9, pu_i10, pu_i11, pu_i12, pu_i13, pu_i14, pu_i15, pu_i16, pu_i17, pu_i18, pu_i19, pu_i20, pu_i21, pu_i22, pu_i23, pu_i30, pu_i33, pu_i34, pu_i35, pu_i36, pu_i40, pu_i41, pu_i42, pu_i45, pu_i46, pu_i48, pu_i49, pu_i50, pu_i57, pu_i59, pu_i60, pu_i62, pu_i66, pu_i86, pu_i94, pu_i99, pu_i100, pu_i103, pu_i106, pu_i108, pu_i109, pu_i111, pu_i113, pu_i119, pu_i126, pu_i999, pu_bnd, pu_nm, pu_gd, pu_bnd2, pu_inb, pu_at, pu_put, pu_us, pu_un, pu_Rs, pu_Rn, pu_upS, pu_RR, nI_add, pk_mul, pk_sub, nI_clamp, nI_eq, nI_leI, nI_ltI, pu_nI_mI, pu_mI_nI, pu_mm, pu_nn, pu_nI_le_mI, pu_nI_lt_mI, pu_mI_lt, pu_mI_le, pu_inW, pu_inO, if_pos, if_neg, ↓reduceIte, pu_bnd3]
    · rw [if_pos rfl]
      omega
  · refine ⟨?_, ?_⟩
    · rw [if_neg (show ¬ (2 : Nat) = 1 by omega), if_pos rfl]
      simp only [pu_i3, ec]
      simp (disch := omega) only [e0, e1, e2, ec, ↓pu_m1, pu_i0, pu_i1, pu_i2, pu_i3, pu_i4, pu_i5, pu_i6, pu_i7, pu_i8, pu_i9, pu_i10, pu_i11, pu_i12, pu_i13, pu_i14, pu_i15, pu_i16, pu_i17, pu_i18, pu_i19, pu_i20, pu_i21, pu_i22, pu_i23, pu_i30, pu_i33, pu_i34, pu_i35, pu_i36, pu_i40, pu_i41, pu_i42, pu_i45, pu_i46, pu_i48, pu_i49, pu_i50, pu_i57, pu_i59, pu_i60, pu_i62, pu_i66, pu_i86, pu_i94, pu_i99, pu_i100, pu_i103, pu_i106, pu_i108, pu_i109, pu_i111, pu_i113, pu_i119, pu_i126, pu_i999, pu_bnd, pu_nm, pu_gd, pu_bnd2, pu_inb, pu_at, pu_put, pu_us, pu_un, pu_Rs, pu_Rn, pu_upS, pu_RR, nI_add, pk_mul, pk_sub, nI_clamp, nI_eq, nI_leI, nI_ltI, pu_nI_mI, pu_mI_nI, pu_mm, pu_nn, pu_nI_le_mI, pu_nI_lt_mI, pu_mI_lt, pu_mI_le, pu_inW, pu_inO, if_pos, if_neg, ↓reduceIte, pu_bnd3]
    · rw [if_neg (show ¬ (2 : Nat) = 1 by omega), if_pos rfl]
      omega
def wlN (K : RK) (g : Nat) : Nat := if wc K g = mI then 0 else nk K 3 (wc K g).toNatClampNeg
theorem e_wl {B n : Nat} {l : Nat → Nat} {K : RK} (h : Ra B n l K) {g : Nat} (hg : g < n) : f_X1_wornLace K (nI g) = some (nI (wlN K g)) ∧ wlN K g ≤ 40 ∧ (wc K g = mI ∧ wlN K g = 0 ∨ ∃ o : Nat, o < n ∧ wc K g = nI o ∧ wlN K g = nk K 3 o) := by
  have hn := h.n10
  obtain ⟨w, hr⟩ := h.rel
  obtain ⟨c, hc, e1, e2⟩ := wl_val hr hg
  rw [t_wl hr.2.2.1 hn hg, e1]
  rcases e2 with ⟨h1, h2⟩ | ⟨o, h1, h2, h3⟩
  · unfold wlN
    rw [if_pos h1, h2]
    exact ⟨rfl, by omega, Or.inl ⟨h1, rfl⟩⟩
  · have e : nk K 3 o = c := by
      unfold nk
      rw [h3, nI_clamp (by omega)]
    unfold wlN
    rw [h2, if_neg (nI_nm (by omega)), nI_clamp (by omega), e]
    exact ⟨rfl, hc, Or.inr ⟨o, h1, rfl, e.symm⟩⟩
abbrev mkd (K : RK) (g : Nat) : Prop := wc K g ≠ mI ∧ 0 < nk K 6 g ∧ 0 < nk K 1 g
theorem e_pm {B n : Nat} {l : Nat → Nat} {K : RK} (h : Ra B n l K) (hB : 360 * B < 2 ^ 30) {g : Nat} (hg : g < n) : f_X0_passesMasked K (nI g) = some (if mkd K g then nI 1 else nI 0) := by
  obtain ⟨-, ⟨e1, h1⟩, -, -, ⟨e6, h6⟩, -⟩ := h.k hB hg
  obtain ⟨w, hr⟩ := h.rel
  rw [t_masked hr hg h1 h6 e1 e6]
  by_cases c1 : wc K g = mI
  · rw [if_pos c1, if_neg (fun q => q.1 c1)]
  · by_cases c2 : nk K 6 g = 0
    · rw [if_neg c1, if_pos c2, if_neg (fun q => by have := q.2.1; omega)]
    · by_cases c3 : nk K 1 g = 0
      · rw [if_neg c1, if_neg c2, if_pos c3, if_neg (fun q => by have := q.2.2; omega)]
      · rw [if_neg c1, if_neg c2, if_neg c3, if_pos ⟨c1, by omega, by omega⟩]
def eN (K : RK) (g c : Nat) : Nat := if mkd K g then 0 else wlN K g - alN K c (nk K 0 g) (nk K 11 0)
theorem e_ells {B n : Nat} {l : Nat → Nat} {K : RK} (h : Ra B n l K) (hB : 360 * B < 2 ^ 30) {g c : Nat} (hg : g < n) (hc : c < 3) : f_X0_ellsTooMuch K (nI g) (nI c) = some (nI (eN K g c)) ∧ eN K g c ≤ 40 := by
  have hn := h.n10
  obtain ⟨⟨e0, h0⟩, -⟩ := h.k hB hg
  obtain ⟨⟨et, ht⟩, -⟩ := h.t hB
  obtain ⟨ew, hw, -⟩ := e_wl h hg
  have em := e_pm h hB hg
  obtain ⟨ea, ha⟩ := e_allowed h hB hc h0 (show nk K 11 0 < 2 ^ 31 by omega)
  unfold f_X0_ellsTooMuch eN
  by_cases c1 : mkd K g
  · rw [if_pos c1] at em
    rw [if_pos c1]
    simp (disch := omega) only [em, ↓pu_m1, pu_i0, pu_i1, pu_i2, pu_i3, pu_i4, pu_i5, pu_i6, pu_i7, pu_i8, pu_i9, pu_i10, pu_i11, pu_i12, pu_i13, pu_i14, pu_i15, pu_i16, pu_i17, pu_i18, pu_i19, pu_i20, pu_i21, pu_i22, pu_i23, pu_i30, pu_i33, pu_i34, pu_i35, pu_i36, pu_i40, pu_i41, pu_i42, pu_i45, pu_i46, pu_i48, pu_i49, pu_i50, pu_i57, pu_i59, pu_i60, pu_i62, pu_i66, pu_i86, pu_i94, pu_i99, pu_i100, pu_i103, pu_i106, pu_i108, pu_i109, pu_i111, pu_i113, pu_i119, pu_i126, pu_i999, pu_bnd, pu_nm, pu_gd, pu_bnd2, pu_inb, pu_at, pu_put, pu_us, pu_un, pu_Rs, pu_Rn, pu_upS, pu_RR, nI_add, pk_mul, pk_sub, nI_clamp, nI_eq, nI_leI, nI_ltI, pu_nI_mI, pu_mI_nI, pu_mm, pu_nn, pu_nI_le_mI, pu_nI_lt_mI, pu_mI_lt, pu_mI_le, pu_inW, pu_inO, if_pos, if_neg, ↓reduceIte, pu_bnd3]
    exact ⟨trivial, by omega⟩
  · rw [if_neg c1] at em
    rw [if_neg c1]
    simp (disch := omega) only [em, ew, e0, et, ea, pu_maxs, ↓pu_m1, pu_i0, pu_i1, pu_i2, pu_i3, pu_i4, pu_i5, pu_i6, pu_i7, pu_i8, pu_i9, pu_i10, pu_i11, pu_i12, pu_i13, pu_i14, pu_i15, pu_i16, pu_i17, pu_i18, pu_i19, pu_i20, pu_i21, pu_i22, pu_i23, pu_i30, pu_i33, pu_i34, pu_i35, pu_i36, pu_i40, pu_i41, pu_i42, pu_i45, pu_i46, pu_i48, pu_i49, pu_i50, pu_i57, pu_i59, pu_i60, pu_i62, pu_i66, pu_i86, pu_i94, pu_i99, pu_i100, pu_i103, pu_i106, pu_i108, pu_i109, pu_i111, pu_i113, pu_i119, pu_i126, pu_i999, pu_bnd, pu_nm, pu_gd, pu_bnd2, pu_inb, pu_at, pu_put, pu_us, pu_un, pu_Rs, pu_Rn, pu_upS, pu_RR, nI_add, pk_mul, pk_sub, nI_clamp, nI_eq, nI_leI, nI_ltI, pu_nI_mI, pu_mI_nI, pu_mm, pu_nn, pu_nI_le_mI, pu_nI_lt_mI, pu_mI_lt, pu_mI_le, pu_inW, pu_inO, if_pos, if_neg, ↓reduceIte, pu_bnd3]
    exact ⟨trivial, by omega⟩
def pN (K : RK) (g q : Nat) : Nat := if mkd K g then 1 else min q (nk K 1 g)
theorem e_paid {B n : Nat} {l : Nat → Nat} {K : RK} (h : Ra B n l K) (hB : 360 * B < 2 ^ 30) {g q : Nat} (hg : g < n) (hq : q ≤ 360) : f_X0_paidByGuest K (nI g) (nI q) = some (nI (pN K g q)) ∧ pN K g q ≤ nk K 1 g := by
  have hn := h.n10
  obtain ⟨-, ⟨e1, h1⟩, -⟩ := h.k hB hg
  have em := e_pm h hB hg
  unfold f_X0_paidByGuest pN
  by_cases c1 : mkd K g
  · rw [if_pos c1] at em
    rw [if_pos c1]
    have := c1.2.2
    simp (disch := omega) only [em, ↓pu_m1, pu_i0, pu_i1, pu_i2, pu_i3, pu_i4, pu_i5, pu_i6, pu_i7, pu_i8, pu_i9, pu_i10, pu_i11, pu_i12, pu_i13, pu_i14, pu_i15, pu_i16, pu_i17, pu_i18, pu_i19, pu_i20, pu_i21, pu_i22, pu_i23, pu_i30, pu_i33, pu_i34, pu_i35, pu_i36, pu_i40, pu_i41, pu_i42, pu_i45, pu_i46, pu_i48, pu_i49, pu_i50, pu_i57, pu_i59, pu_i60, pu_i62, pu_i66, pu_i86, pu_i94, pu_i99, pu_i100, pu_i103, pu_i106, pu_i108, pu_i109, pu_i111, pu_i113, pu_i119, pu_i126, pu_i999, pu_bnd, pu_nm, pu_gd, pu_bnd2, pu_inb, pu_at, pu_put, pu_us, pu_un, pu_Rs, pu_Rn, pu_upS, pu_RR, nI_add, pk_mul, pk_sub, nI_clamp, nI_eq, nI_leI, nI_ltI, pu_nI_mI, pu_mI_nI, pu_mm, pu_nn, pu_nI_le_mI, pu_nI_lt_mI, pu_mI_lt, pu_mI_le, pu_inW, pu_inO, if_pos, if_neg, ↓reduceIte, pu_bnd3]
    exact ⟨trivial, by omega⟩
  · rw [if_neg c1] at em
    rw [if_neg c1]
    simp (disch := omega) only [em, e1, pu_min, ↓pu_m1, pu_i0, pu_i1, pu_i2, pu_i3, pu_i4, pu_i5, pu_i6, pu_i7, pu_i8, pu_i9, pu_i10, pu_i11, pu_i12, pu_i13, pu_i14, pu_i15, pu_i16, pu_i17, pu_i18, pu_i19, pu_i20, pu_i21, pu_i22, pu_i23, pu_i30, pu_i33, pu_i34, pu_i35, pu_i36, pu_i40, pu_i41, pu_i42, pu_i45, pu_i46, pu_i48, pu_i49, pu_i50, pu_i57, pu_i59, pu_i60, pu_i62, pu_i66, pu_i86, pu_i94, pu_i99, pu_i100, pu_i103, pu_i106, pu_i108, pu_i109, pu_i111, pu_i113, pu_i119, pu_i126, pu_i999, pu_bnd, pu_nm, pu_gd, pu_bnd2, pu_inb, pu_at, pu_put, pu_us, pu_un, pu_Rs, pu_Rn, pu_upS, pu_RR, nI_add, pk_mul, pk_sub, nI_clamp, nI_eq, nI_leI, nI_ltI, pu_nI_mI, pu_mI_nI, pu_mm, pu_nn, pu_nI_le_mI, pu_nI_lt_mI, pu_mI_lt, pu_mI_le, pu_inW, pu_inO, if_pos, if_neg, ↓reduceIte, pu_bnd3]
    exact ⟨trivial, by omega⟩
theorem e_left {B n : Nat} {l : Nat → Nat} {K : RK} (h : Ra B n l K) (hB : 360 * B < 2 ^ 30) {g q : Nat} (hg : g < n) (hq : q ≤ 360) : f_X0_leftOfFine K (nI g) (nI q) = some (nI (q - nk K 1 g)) := by
  have hn := h.n10
  obtain ⟨-, ⟨e1, h1⟩, -⟩ := h.k hB hg
  unfold f_X0_leftOfFine
  simp (disch := omega) only [e1, pu_maxs, ↓pu_m1, pu_i0, pu_i1, pu_i2, pu_i3, pu_i4, pu_i5, pu_i6, pu_i7, pu_i8, pu_i9, pu_i10, pu_i11, pu_i12, pu_i13, pu_i14, pu_i15, pu_i16, pu_i17, pu_i18, pu_i19, pu_i20, pu_i21, pu_i22, pu_i23, pu_i30, pu_i33, pu_i34, pu_i35, pu_i36, pu_i40, pu_i41, pu_i42, pu_i45, pu_i46, pu_i48, pu_i49, pu_i50, pu_i57, pu_i59, pu_i60, pu_i62, pu_i66, pu_i86, pu_i94, pu_i99, pu_i100, pu_i103, pu_i106, pu_i108, pu_i109, pu_i111, pu_i113, pu_i119, pu_i126, pu_i999, pu_bnd, pu_nm, pu_gd, pu_bnd2, pu_inb, pu_at, pu_put, pu_us, pu_un, pu_Rs, pu_Rn, pu_upS, pu_RR, nI_add, pk_mul, pk_sub, nI_clamp, nI_eq, nI_leI, nI_ltI, pu_nI_mI, pu_mI_nI, pu_mm, pu_nn, pu_nI_le_mI, pu_nI_lt_mI, pu_mI_lt, pu_mI_le, pu_inW, pu_inO, if_pos, if_neg, ↓reduceIte, pu_bnd3]
def hN (K : RK) (g left : Nat) : Nat := if K 4 g = mI then 0 else min (left / 2) (nk K 1 (K 4 g).toNatClampNeg)
theorem e_lend {B n : Nat} {l : Nat → Nat} {K : RK} (h : Ra B n l K) (hB : 360 * B < 2 ^ 30) {g q : Nat} (hg : g < n) (hq : q ≤ 360) : f_X0_paidByLender K (nI g) (nI q) = some (nI (hN K g q)) ∧ hN K g q ≤ q ∧ (K 4 g = mI ∧ hN K g q = 0 ∨ ∃ o : Nat, o < n ∧ o ≠ g ∧ K 4 g = nI o ∧ hN K g q ≤ nk K 1 o) := by
  have hn := h.n10
  rcases (h.c g hg).1 with e | ⟨o, h1, h2, e, h5⟩
  · unfold f_X0_paidByLender hN
    rw [if_pos e]
    simp (disch := omega) only [e, ↓pu_m1, pu_i0, pu_i1, pu_i2, pu_i3, pu_i4, pu_i5, pu_i6, pu_i7, pu_i8, pu_i9, pu_i10, pu_i11, pu_i12, pu_i13, pu_i14, pu_i15, pu_i16, pu_i17, pu_i18, pu_i19, pu_i20, pu_i21, pu_i22, pu_i23, pu_i30, pu_i33, pu_i34, pu_i35, pu_i36, pu_i40, pu_i41, pu_i42, pu_i45, pu_i46, pu_i48, pu_i49, pu_i50, pu_i57, pu_i59, pu_i60, pu_i62, pu_i66, pu_i86, pu_i94, pu_i99, pu_i100, pu_i103, pu_i106, pu_i108, pu_i109, pu_i111, pu_i113, pu_i119, pu_i126, pu_i999, pu_bnd, pu_nm, pu_gd, pu_bnd2, pu_inb, pu_at, pu_put, pu_us, pu_un, pu_Rs, pu_Rn, pu_upS, pu_RR, nI_add, pk_mul, pk_sub, nI_clamp, nI_eq, nI_leI, nI_ltI, pu_nI_mI, pu_mI_nI, pu_mm, pu_nn, pu_nI_le_mI, pu_nI_lt_mI, pu_mI_lt, pu_mI_le, pu_inW, pu_inO, if_pos, if_neg, ↓reduceIte, pu_bnd3]
    exact ⟨trivial, by omega, Or.inl ⟨trivial, trivial⟩⟩
  · obtain ⟨-, ⟨e1, q1⟩, -⟩ := h.k hB h1
    have e2 : nI q / nI 2 = nI (q / 2) := pk_div (by omega) (by omega) (by omega)
    unfold f_X0_paidByLender hN
    rw [e, if_neg (nI_nm (by omega)), nI_clamp (by omega)]
    refine ⟨?_, by omega, Or.inr ⟨o, h1, h2, rfl, by omega⟩⟩
    simp (disch := omega) only [e, e2, e1, pu_min, ↓pu_m1, pu_i0, pu_i1, pu_i2, pu_i3, pu_i4, pu_i5, pu_i6, pu_i7, pu_i8, pu_i9, pu_i10, pu_i11, pu_i12, pu_i13, pu_i14, pu_i15, pu_i16, pu_i17, pu_i18, pu_i19, pu_i20, pu_i21, pu_i22, pu_i23, pu_i30, pu_i33, pu_i34, pu_i35, pu_i36, pu_i40, pu_i41, pu_i42, pu_i45, pu_i46, pu_i48, pu_i49, pu_i50, pu_i57, pu_i59, pu_i60, pu_i62, pu_i66, pu_i86, pu_i94, pu_i99, pu_i100, pu_i103, pu_i106, pu_i108, pu_i109, pu_i111, pu_i113, pu_i119, pu_i126, pu_i999, pu_bnd, pu_nm, pu_gd, pu_bnd2, pu_inb, pu_at, pu_put, pu_us, pu_un, pu_Rs, pu_Rn, pu_upS, pu_RR, nI_add, pk_mul, pk_sub, nI_clamp, nI_eq, nI_leI, nI_ltI, pu_nI_mI, pu_mI_nI, pu_mm, pu_nn, pu_nI_le_mI, pu_nI_lt_mI, pu_mI_lt, pu_mI_le, pu_inW, pu_inO, if_pos, if_neg, ↓reduceIte, pu_bnd3]
def fN (K : RK) (g c : Nat) : Nat := eN K g c * nk K 10 3
def dbN (K : RK) (g c : Nat) : Nat := nk K 2 g + (fN K g c - nk K 1 g) - hN K g (fN K g c - nk K 1 g)
theorem e_bring {B n : Nat} {l : Nat → Nat} {K : RK} (h : Ra B n l K) (hB : 360 * B < 2 ^ 30) {g c : Nat} (hg : g < n) (hc : c < 3) : f_X0_gateNumber K (nI g) (nI c) (nI 0) = some (nI (eN K g c)) ∧ f_X0_gateNumber K (nI g) (nI c) (nI 1) = some (nI (fN K g c)) ∧ f_X0_gateNumber K (nI g) (nI c) (nI 2) = some (nI (pN K g (fN K g c))) ∧ f_X0_gateNumber K (nI g) (nI c) (nI 3) = some (nI (dbN K g c)) ∧ fN K g c ≤ 360 := by
  have hn := h.n10
  obtain ⟨ee, he⟩ := e_ells h hB hg hc
  obtain ⟨-, -, -, -, ⟨e3, h3⟩, -⟩ := h.t hB
  obtain ⟨-, -, ⟨e2, h2⟩, -⟩ := h.k hB hg
  have hf : eN K g c * nk K 10 3 ≤ 40 * 9 := Nat.mul_le_mul he h3
  obtain ⟨ep, hp⟩ := e_paid h hB hg (q := eN K g c * nk K 10 3) (by omega)
  have el := e_left h hB hg (q := eN K g c * nk K 10 3) (by omega)
  obtain ⟨eh, hh, -⟩ := e_lend h hB hg (q := eN K g c * nk K 10 3 - nk K 1 g) (by omega)
  unfold f_X0_gateNumber dbN fN
  refine ⟨?_, ?_, ?_, ?_, by omega⟩
  · simp (disch := omega) only [ee, e3, el, ↓pu_m1, pu_i0, pu_i1, pu_i2, pu_i3, pu_i4, pu_i5, pu_i6, pu_i7, pu_i8, pu_i9, pu_i10, pu_i11, pu_i12, pu_i13, pu_i14, pu_i15, pu_i16, pu_i17, pu_i18, pu_i19, pu_i20, pu_i21, pu_i22, pu_i23, pu_i30, pu_i33, pu_i34, pu_i35, pu_i36, pu_i40, pu_i41, pu_i42, pu_i45, pu_i46, pu_i48, pu_i49, pu_i50, pu_i57, pu_i59, pu_i60, pu_i62, pu_i66, pu_i86, pu_i94, pu_i99, pu_i100, pu_i103, pu_i106, pu_i108, pu_i109, pu_i111, pu_i113, pu_i119, pu_i126, pu_i999, pu_bnd, pu_nm, pu_gd, pu_bnd2, pu_inb, pu_at, pu_put, pu_us, pu_un, pu_Rs, pu_Rn, pu_upS, pu_RR, nI_add, pk_mul, pk_sub, nI_clamp, nI_eq, nI_leI, nI_ltI, pu_nI_mI, pu_mI_nI, pu_mm, pu_nn, pu_nI_le_mI, pu_nI_lt_mI, pu_mI_lt, pu_mI_le, pu_inW, pu_inO, if_pos, if_neg, ↓reduceIte, pu_bnd3]
  · simp (disch := omega) only [ee, e3, el, ↓pu_m1, pu_i0, pu_i1, pu_i2, pu_i3, pu_i4, pu_i5, pu_i6, pu_i7, pu_i8, pu_i9, pu_i10, pu_i11, pu_i12, pu_i13, pu_i14, pu_i15, pu_i16, pu_i17, pu_i18, pu_i19, pu_i20, pu_i21, pu_i22, pu_i23, pu_i30, pu_i33, pu_i34, pu_i35, pu_i36, pu_i40, pu_i41, pu_i42, pu_i45, pu_i46, pu_i48, pu_i49, pu_i50, pu_i57, pu_i59, pu_i60, pu_i62, pu_i66, pu_i86, pu_i94, pu_i99, pu_i100, pu_i103, pu_i106, pu_i108, pu_i109, pu_i111, pu_i113, pu_i119, pu_i126, pu_i999, pu_bnd, pu_nm, pu_gd, pu_bnd2, pu_inb, pu_at, pu_put, pu_us, pu_un, pu_Rs, pu_Rn, pu_upS, pu_RR, nI_add, pk_mul, pk_sub, nI_clamp, nI_eq, nI_leI, nI_ltI, pu_nI_mI, pu_mI_nI, pu_mm, pu_nn, pu_nI_le_mI, pu_nI_lt_mI, pu_mI_lt, pu_mI_le, pu_inW, pu_inO, if_pos, if_neg, ↓reduceIte, pu_bnd3]
  · simp (disch := omega) only [ee, e3, el, ep, ↓pu_m1, pu_i0, pu_i1, pu_i2, pu_i3, pu_i4, pu_i5, pu_i6, pu_i7, pu_i8, pu_i9, pu_i10, pu_i11, pu_i12, pu_i13, pu_i14, pu_i15, pu_i16, pu_i17, pu_i18, pu_i19, pu_i20, pu_i21, pu_i22, pu_i23, pu_i30, pu_i33, pu_i34, pu_i35, pu_i36, pu_i40, pu_i41, pu_i42, pu_i45, pu_i46, pu_i48, pu_i49, pu_i50, pu_i57, pu_i59, pu_i60, pu_i62, pu_i66, pu_i86, pu_i94, pu_i99, pu_i100, pu_i103, pu_i106, pu_i108, pu_i109, pu_i111, pu_i113, pu_i119, pu_i126, pu_i999, pu_bnd, pu_nm, pu_gd, pu_bnd2, pu_inb, pu_at, pu_put, pu_us, pu_un, pu_Rs, pu_Rn, pu_upS, pu_RR, nI_add, pk_mul, pk_sub, nI_clamp, nI_eq, nI_leI, nI_ltI, pu_nI_mI, pu_mI_nI, pu_mm, pu_nn, pu_nI_le_mI, pu_nI_lt_mI, pu_mI_lt, pu_mI_le, pu_inW, pu_inO, if_pos, if_neg, ↓reduceIte, pu_bnd3]
  · simp (disch := omega) only [ee, e3, el, e2, eh, ↓pu_m1, pu_i0, pu_i1, pu_i2, pu_i3, pu_i4, pu_i5, pu_i6, pu_i7, pu_i8, pu_i9, pu_i10, pu_i11, pu_i12, pu_i13, pu_i14, pu_i15, pu_i16, pu_i17, pu_i18, pu_i19, pu_i20, pu_i21, pu_i22, pu_i23, pu_i30, pu_i33, pu_i34, pu_i35, pu_i36, pu_i40, pu_i41, pu_i42, pu_i45, pu_i46, pu_i48, pu_i49, pu_i50, pu_i57, pu_i59, pu_i60, pu_i62, pu_i66, pu_i86, pu_i94, pu_i99, pu_i100, pu_i103, pu_i106, pu_i108, pu_i109, pu_i111, pu_i113, pu_i119, pu_i126, pu_i999, pu_bnd, pu_nm, pu_gd, pu_bnd2, pu_inb, pu_at, pu_put, pu_us, pu_un, pu_Rs, pu_Rn, pu_upS, pu_RR, nI_add, pk_mul, pk_sub, nI_clamp, nI_eq, nI_leI, nI_ltI, pu_nI_mI, pu_mI_nI, pu_mm, pu_nn, pu_nI_le_mI, pu_nI_lt_mI, pu_mI_lt, pu_mI_le, pu_inW, pu_inO, if_pos, if_neg, ↓reduceIte, pu_bnd3]
theorem e_best {B n : Nat} {l : Nat → Nat} {K : RK} (h : Ra B n l K) (hB : 360 * B < 2 ^ 30) {g : Nat} (hg : g < n) : ∃ b : Nat, b < 3 ∧ f_X0_gateOfFewestElls K (nI g) = some (nI b) ∧ ∀ c : Nat, c < 3 → eN K g b ≤ eN K g c := by
  have hE : ∀ c, c < 3 → eN K g c ≤ 40 ∧ f_X0_ellsTooMuch K (nI g) (nI c) = some (nI (eN K g c)) := fun c hc => ⟨(e_ells h hB hg hc).2, (e_ells h hB hg hc).1⟩
  have bl : ∀ b c, b < 3 → c < 3 → bst (eN K g) l b c < 3 ∧ eN K g (bst (eN K g) l b c) ≤ eN K g b ∧ eN K g (bst (eN K g) l b c) ≤ eN K g c := by
    intro b c hb hc
    unfold bst
    by_cases q : eN K g c < eN K g b ∨ (eN K g c = eN K g b ∧ l c < l b)
    · rw [if_pos q]
      exact ⟨hc, by omega, by omega⟩
    · rw [if_neg q]
      exact ⟨hb, by omega, by omega⟩
  obtain ⟨b1, b2, b3⟩ := bl 0 1 (by omega) (by omega)
  obtain ⟨c1, c2, c3⟩ := bl (bst (eN K g) l 0 1) 2 b1 (by omega)
  refine ⟨bst (eN K g) l (bst (eN K g) l 0 1) 2, c1, ?_, ?_⟩
  · have u1 := t_best1 (F := 999) hE h.l.1 h.l.2.2.1 (show 0 < 3 by omega) (show 1 < 3 by omega)
    have u2 := t_best1 (F := 998) hE h.l.1 h.l.2.2.1 b1 (show 2 < 3 by omega)
    have u3 : f_X0_gateOfFewestElls_l4 K (997 + 1) (nI g) (nI (bst (eN K g) l (bst (eN K g) l 0 1) 2)) (nI (2 + 1)) = some (nI (bst (eN K g) l (bst (eN K g) l 0 1) 2)) := by
      rw [show f_X0_gateOfFewestElls_l4 K (997 + 1) (nI g) (nI (bst (eN K g) l (bst (eN K g) l 0 1) 2)) (nI (2 + 1)) = _ from by unfold f_X0_gateOfFewestElls_l4; rfl]
      simp (disch := omega) only [↓pu_m1, pu_i0, pu_i1, pu_i2, pu_i3, pu_i4, pu_i5, pu_i6, pu_i7, pu_i8, pu_i9, pu_i10, pu_i11, pu_i12, pu_i13, pu_i14, pu_i15, pu_i16, pu_i17, pu_i18, pu_i19, pu_i20, pu_i21, pu_i22, pu_i23, pu_i30, pu_i33, pu_i34, pu_i35, pu_i36, pu_i40, pu_i41, pu_i42, pu_i45, pu_i46, pu_i48, pu_i49, pu_i50, pu_i57, pu_i59, pu_i60, pu_i62, pu_i66, pu_i86, pu_i94, pu_i99, pu_i100, pu_i103, pu_i106, pu_i108, pu_i109, pu_i111, pu_i113, pu_i119, pu_i126, pu_i999, pu_bnd, pu_nm, pu_gd, pu_bnd2, pu_inb, pu_at, pu_put, pu_us, pu_un, pu_Rs, pu_Rn, pu_upS, pu_RR, nI_add, pk_mul, pk_sub, nI_clamp, nI_eq, nI_leI, nI_ltI, pu_nI_mI, pu_mI_nI, pu_mm, pu_nn, pu_nI_le_mI, pu_nI_lt_mI, pu_mI_lt, pu_mI_le, pu_inW, pu_inO, if_pos, if_neg, ↓reduceIte, pu_bnd3]
    exact u1.trans (u2.trans u3)
  · intro c hc
    rcases (show c = 0 ∨ c = 1 ∨ c = 2 by omega) with e | e | e <;> subst e <;> omega
theorem e_allows {B n : Nat} {l : Nat → Nat} {K : RK} (h : Ra B n l K) (hB : 360 * B < 2 ^ 30) {g c t : Nat} (hg : g < n) (hc : c < 3) (ht : t < 2 ^ 31) : f_X0_allowsLace K (nI g) (nI c) (nI t) = some (if alN K c (nk K 0 g) t < wlN K g then nI 0 else nI 1) := by
  have hn := h.n10
  obtain ⟨⟨e0, h0⟩, -⟩ := h.k hB hg
  obtain ⟨ew, hw, -⟩ := e_wl h hg
  obtain ⟨ea, ha⟩ := e_allowed h hB hc h0 ht
  unfold f_X0_allowsLace
  by_cases q : alN K c (nk K 0 g) t < wlN K g
  · simp (disch := omega) only [ew, e0, ea, ↓pu_m1, pu_i0, pu_i1, pu_i2, pu_i3, pu_i4, pu_i5, pu_i6, pu_i7, pu_i8, pu_i9, pu_i10, pu_i11, pu_i12, pu_i13, pu_i14, pu_i15, pu_i16, pu_i17, pu_i18, pu_i19, pu_i20, pu_i21, pu_i22, pu_i23, pu_i30, pu_i33, pu_i34, pu_i35, pu_i36, pu_i40, pu_i41, pu_i42, pu_i45, pu_i46, pu_i48, pu_i49, pu_i50, pu_i57, pu_i59, pu_i60, pu_i62, pu_i66, pu_i86, pu_i94, pu_i99, pu_i100, pu_i103, pu_i106, pu_i108, pu_i109, pu_i111, pu_i113, pu_i119, pu_i126, pu_i999, pu_bnd, pu_nm, pu_gd, pu_bnd2, pu_inb, pu_at, pu_put, pu_us, pu_un, pu_Rs, pu_Rn, pu_upS, pu_RR, nI_add, pk_mul, pk_sub, nI_clamp, nI_eq, nI_leI, nI_ltI, pu_nI_mI, pu_mI_nI, pu_mm, pu_nn, pu_nI_le_mI, pu_nI_lt_mI, pu_mI_lt, pu_mI_le, pu_inW, pu_inO, if_pos, if_neg, ↓reduceIte, pu_bnd3]
  · simp (disch := omega) only [ew, e0, ea, ↓pu_m1, pu_i0, pu_i1, pu_i2, pu_i3, pu_i4, pu_i5, pu_i6, pu_i7, pu_i8, pu_i9, pu_i10, pu_i11, pu_i12, pu_i13, pu_i14, pu_i15, pu_i16, pu_i17, pu_i18, pu_i19, pu_i20, pu_i21, pu_i22, pu_i23, pu_i30, pu_i33, pu_i34, pu_i35, pu_i36, pu_i40, pu_i41, pu_i42, pu_i45, pu_i46, pu_i48, pu_i49, pu_i50, pu_i57, pu_i59, pu_i60, pu_i62, pu_i66, pu_i86, pu_i94, pu_i99, pu_i100, pu_i103, pu_i106, pu_i108, pu_i109, pu_i111, pu_i113, pu_i119, pu_i126, pu_i999, pu_bnd, pu_nm, pu_gd, pu_bnd2, pu_inb, pu_at, pu_put, pu_us, pu_un, pu_Rs, pu_Rn, pu_upS, pu_RR, nI_add, pk_mul, pk_sub, nI_clamp, nI_eq, nI_leI, nI_ltI, pu_nI_mI, pu_mI_nI, pu_mm, pu_nn, pu_nI_le_mI, pu_nI_lt_mI, pu_mI_lt, pu_mI_le, pu_inW, pu_inO, if_pos, if_neg, ↓reduceIte, pu_bnd3]
theorem e_free_l {B n : Nat} {l : Nat → Nat} {K : RK} (h : Ra B n l K) (hB : 360 * B < 2 ^ 30) {g c : Nat} (hg : g < n) (hc : c < 3) : ∀ (k i F : Nat), i + k = 7 → k < F → ∃ r : Int32, f_X0_nightsUntilAllowed_l2 K F (nI g) (nI c) (nI i) = some r ∧ (r = mI ∨ ∃ j : Nat, i ≤ j ∧ j < 7 ∧ r = nI j ∧ ¬ alN K c (nk K 0 g) (nk K 11 0 + j) < wlN K g) ∧ (k = 0 ∨ alN K c (nk K 0 g) (nk K 11 0 + i) < wlN K g ∨ r = nI i) := by
  obtain ⟨⟨et, ht⟩, -⟩ := h.t hB
  intro k
  induction k with
  | zero =>
    intro i F hi hF
    obtain ⟨F, rfl⟩ : ∃ q, F = q + 1 := ⟨F - 1, by omega⟩
    refine ⟨mI, ?_, Or.inl rfl, Or.inl rfl⟩
    unfold f_X0_nightsUntilAllowed_l2
    simp (disch := omega) only [↓pu_m1, pu_i0, pu_i1, pu_i2, pu_i3, pu_i4, pu_i5, pu_i6, pu_i7, pu_i8, pu_i9, pu_i10, pu_i11, pu_i12, pu_i13, pu_i14, pu_i15, pu_i16, pu_i17, pu_i18, pu_i19, pu_i20, pu_i21, pu_i22, pu_i23, pu_i30, pu_i33, pu_i34, pu_i35, pu_i36, pu_i40, pu_i41, pu_i42, pu_i45, pu_i46, pu_i48, pu_i49, pu_i50, pu_i57, pu_i59, pu_i60, pu_i62, pu_i66, pu_i86, pu_i94, pu_i99, pu_i100, pu_i103, pu_i106, pu_i108, pu_i109, pu_i111, pu_i113, pu_i119, pu_i126, pu_i999, pu_bnd, pu_nm, pu_gd, pu_bnd2, pu_inb, pu_at, pu_put, pu_us, pu_un, pu_Rs, pu_Rn, pu_upS, pu_RR, nI_add, pk_mul, pk_sub, nI_clamp, nI_eq, nI_leI, nI_ltI, pu_nI_mI, pu_mI_nI, pu_mm, pu_nn, pu_nI_le_mI, pu_nI_lt_mI, pu_mI_lt, pu_mI_le, pu_inW, pu_inO, if_pos, if_neg, ↓reduceIte, pu_bnd3]
  | succ k ih =>
    intro i F hi hF
    obtain ⟨F, rfl⟩ : ∃ q, F = q + 1 := ⟨F - 1, by omega⟩
    have al := e_allows h hB hg hc (show nk K 11 0 + i < 2 ^ 31 by omega)
    by_cases q : alN K c (nk K 0 g) (nk K 11 0 + i) < wlN K g
    · obtain ⟨r, r1, r2, r3⟩ := ih (i + 1) F (by omega) (by omega)
      refine ⟨r, ?_, ?_, Or.inr (Or.inl q)⟩
      · rw [if_pos q] at al
        unfold f_X0_nightsUntilAllowed_l2
        simp (disch := omega) only [et, al, ↓pu_m1, pu_i0, pu_i1, pu_i2, pu_i3, pu_i4, pu_i5, pu_i6, pu_i7, pu_i8, pu_i9, pu_i10, pu_i11, pu_i12, pu_i13, pu_i14, pu_i15, pu_i16, pu_i17, pu_i18, pu_i19, pu_i20, pu_i21, pu_i22, pu_i23, pu_i30, pu_i33, pu_i34, pu_i35, pu_i36, pu_i40, pu_i41, pu_i42, pu_i45, pu_i46, pu_i48, pu_i49, pu_i50, pu_i57, pu_i59, pu_i60, pu_i62, pu_i66, pu_i86, pu_i94, pu_i99, pu_i100, pu_i103, pu_i106, pu_i108, pu_i109, pu_i111, pu_i113, pu_i119, pu_i126, pu_i999, pu_bnd, pu_nm, pu_gd, pu_bnd2, pu_inb, pu_at, pu_put, pu_us, pu_un, pu_Rs, pu_Rn, pu_upS, pu_RR, nI_add, pk_mul, pk_sub, nI_clamp, nI_eq, nI_leI, nI_ltI, pu_nI_mI, pu_mI_nI, pu_mm, pu_nn, pu_nI_le_mI, pu_nI_lt_mI, pu_mI_lt, pu_mI_le, pu_inW, pu_inO, if_pos, if_neg, ↓reduceIte, pu_bnd3]
        exact r1
      · rcases r2 with r2 | ⟨j, j1, j2, j3, j4⟩
        · exact Or.inl r2
        · exact Or.inr ⟨j, by omega, j2, j3, j4⟩
    · refine ⟨nI i, ?_, Or.inr ⟨i, by omega, by omega, rfl, q⟩, Or.inr (Or.inr rfl)⟩
      rw [if_neg q] at al
      unfold f_X0_nightsUntilAllowed_l2
      simp (disch := omega) only [et, al, ↓pu_m1, pu_i0, pu_i1, pu_i2, pu_i3, pu_i4, pu_i5, pu_i6, pu_i7, pu_i8, pu_i9, pu_i10, pu_i11, pu_i12, pu_i13, pu_i14, pu_i15, pu_i16, pu_i17, pu_i18, pu_i19, pu_i20, pu_i21, pu_i22, pu_i23, pu_i30, pu_i33, pu_i34, pu_i35, pu_i36, pu_i40, pu_i41, pu_i42, pu_i45, pu_i46, pu_i48, pu_i49, pu_i50, pu_i57, pu_i59, pu_i60, pu_i62, pu_i66, pu_i86, pu_i94, pu_i99, pu_i100, pu_i103, pu_i106, pu_i108, pu_i109, pu_i111, pu_i113, pu_i119, pu_i126, pu_i999, pu_bnd, pu_nm, pu_gd, pu_bnd2, pu_inb, pu_at, pu_put, pu_us, pu_un, pu_Rs, pu_Rn, pu_upS, pu_RR, nI_add, pk_mul, pk_sub, nI_clamp, nI_eq, nI_leI, nI_ltI, pu_nI_mI, pu_mI_nI, pu_mm, pu_nn, pu_nI_le_mI, pu_nI_lt_mI, pu_mI_lt, pu_mI_le, pu_inW, pu_inO, if_pos, if_neg, ↓reduceIte, pu_bnd3]
theorem e_free {B n : Nat} {l : Nat → Nat} {K : RK} (h : Ra B n l K) (hB : 360 * B < 2 ^ 30) {g c : Nat} (hg : g < n) (hc : c < 3) : ∃ r : Int32, f_X0_nightsUntilAllowed K (nI g) (nI c) = some r ∧ (r = nI 0 ↔ wlN K g ≤ alN K c (nk K 0 g) (nk K 11 0)) ∧ (c = 0 → r = nI 0 ∨ r = mI) := by
  obtain ⟨r, h1, h2, h3⟩ := e_free_l h hB hg hc 7 0 fuelN (by omega) (by unfold fuelN; omega)
  rw [Nat.add_zero] at h3
  refine ⟨r, h1, ⟨?_, ?_⟩, ?_⟩
  · intro e
    rcases h2 with h2 | ⟨j, j1, j2, j3, j4⟩
    · rw [e] at h2
      exact absurd h2 (nI_nm (by omega))
    · rw [e] at j3
      have := pu_eqE (by omega) (by omega) j3
      subst this
      rw [Nat.add_zero] at j4
      omega
  · intro e
    rcases h3 with h3 | h3 | h3
    · omega
    · omega
    · exact h3
  · intro e
    subst e
    rcases h2 with h2 | ⟨j, j1, j2, j3, j4⟩
    · exact Or.inr h2
    · rcases h3 with h3 | h3 | h3
      · omega
      · exfalso
        have q : ∀ t, alN K 0 (nk K 0 g) t = nk K 10 0 + nk K 10 1 * nk K 0 g := by
          intro t
          unfold alN al
          rw [if_neg (show ¬ (0 : Nat) = 1 by omega), if_neg (show ¬ (0 : Nat) = 2 by omega)]
        rw [q] at j4 h3
        omega
      · exact Or.inl h3
def dN (K : RK) : Nat → Nat
  | 0 => 0
  | i + 1 => dN K i + (if alN K 0 (nk K 0 i) (nk K 11 0) < wlN K i then 0 else 1)
theorem dN_le (K : RK) : ∀ i : Nat, dN K i ≤ i := by
  intro i
  induction i with
  | zero => exact Nat.le_refl _
  | succ i ih =>
    rw [dN]
    by_cases q : alN K 0 (nk K 0 i) (nk K 11 0) < wlN K i
    · rw [if_pos q]
      omega
    · rw [if_neg q]
      omega
def q_nb (n a : Nat) : Bool := n64b (FP.ddiv (FP.i2d (nI a)) (FP.i2d (nI n))) && decide (Op.cmpValue (FP.dcmp (FP.ddiv (FP.i2d (nI a)) (FP.i2d (nI n))) (FP.ddiv (FP.i2d (nI a)) (FP.i2d (nI n)))) .l = 0)
set_option maxRecDepth 100000 in
theorem q_nball : (List.range 10).all (fun n => (List.range (n + 2)).all (fun a => q_nb (n + 1) a)) = true := by decide +kernel
set_option maxRecDepth 100000 in
theorem q_one : Op.cmpValue (FP.dcmp FP.dconst1 FP.dconst1) .l = 0 := by decide +kernel
theorem q_n64 {n a : Nat} (hn : n < 11) (h0 : 0 < n) (ha : a ≤ n) : n64b (FP.ddiv (FP.i2d (nI a)) (FP.i2d (nI n))) = true ∧ Op.cmpValue (FP.dcmp (FP.ddiv (FP.i2d (nI a)) (FP.i2d (nI n))) (FP.ddiv (FP.i2d (nI a)) (FP.i2d (nI n)))) .l = 0 := by
  have h1 := List.all_eq_true.mp q_nball (n - 1) (List.mem_range.mpr (by omega))
  have h2 := List.all_eq_true.mp h1 a (List.mem_range.mpr (by omega))
  rw [show n - 1 + 1 = n from by omega] at h2
  unfold q_nb at h2
  rw [Bool.and_eq_true] at h2
  exact ⟨h2.1, of_decide_eq_true h2.2⟩
def shN (K : RK) (n : Nat) : UInt64 := if n = 0 then FP.dconst1 else FP.ddiv (FP.i2d (nI (dN K n))) (FP.i2d (nI n))
theorem e_decent_l {B n : Nat} {l : Nat → Nat} {K : RK} (h : Ra B n l K) (hB : 360 * B < 2 ^ 30) (hn0 : 0 < n) : ∀ (k i F : Nat), i + k = n → k < F → f_X0_shareOfDecent_l16 K F (nI (dN K i)) (nI i) = some (FP.ddiv (FP.i2d (nI (dN K n))) (FP.i2d (nI n))) := by
  have hn := h.n10
  have e12 := h.e12
  obtain ⟨⟨et, ht⟩, -⟩ := h.t hB
  intro k
  induction k with
  | zero =>
    intro i F hi hF
    obtain ⟨F, rfl⟩ : ∃ q, F = q + 1 := ⟨F - 1, by omega⟩
    rw [Nat.add_zero] at hi
    subst hi
    have b1 := (q_n64 (n := i) (a := dN K i) (by omega) hn0 (dN_le K i)).1
    unfold f_X0_shareOfDecent_l16
    simp (disch := omega) only [e12, b1, ↓pu_m1, pu_i0, pu_i1, pu_i2, pu_i3, pu_i4, pu_i5, pu_i6, pu_i7, pu_i8, pu_i9, pu_i10, pu_i11, pu_i12, pu_i13, pu_i14, pu_i15, pu_i16, pu_i17, pu_i18, pu_i19, pu_i20, pu_i21, pu_i22, pu_i23, pu_i30, pu_i33, pu_i34, pu_i35, pu_i36, pu_i40, pu_i41, pu_i42, pu_i45, pu_i46, pu_i48, pu_i49, pu_i50, pu_i57, pu_i59, pu_i60, pu_i62, pu_i66, pu_i86, pu_i94, pu_i99, pu_i100, pu_i103, pu_i106, pu_i108, pu_i109, pu_i111, pu_i113, pu_i119, pu_i126, pu_i999, pu_bnd, pu_nm, pu_gd, pu_bnd2, pu_inb, pu_at, pu_put, pu_us, pu_un, pu_Rs, pu_Rn, pu_upS, pu_RR, nI_add, pk_mul, pk_sub, nI_clamp, nI_eq, nI_leI, nI_ltI, pu_nI_mI, pu_mI_nI, pu_mm, pu_nn, pu_nI_le_mI, pu_nI_lt_mI, pu_mI_lt, pu_mI_le, pu_inW, pu_inO, if_pos, if_neg, ↓reduceIte, pu_bnd3]
  | succ k ih =>
    intro i F hi hF
    obtain ⟨F, rfl⟩ : ∃ q, F = q + 1 := ⟨F - 1, by omega⟩
    have q := ih (i + 1) F (by omega) (by omega)
    have al := e_allows h hB (show i < n by omega) (show 0 < 3 by omega) (show nk K 11 0 < 2 ^ 31 by omega)
    have dl := dN_le K i
    rw [dN] at q
    unfold f_X0_shareOfDecent_l16
    by_cases z : alN K 0 (nk K 0 i) (nk K 11 0) < wlN K i
    · rw [if_pos z] at q al
      simp (disch := omega) only [e12, et, al, f_X0_shareOfDecent_b46, ↓pu_m1, pu_i0, pu_i1, pu_i2, pu_i3, pu_i4, pu_i5, pu_i6, pu_i7, pu_i8, pu_i9, pu_i10, pu_i11, pu_i12, pu_i13, pu_i14, pu_i15, pu_i16, pu_i17, pu_i18, pu_i19, pu_i20, pu_i21, pu_i22, pu_i23, pu_i30, pu_i33, pu_i34, pu_i35, pu_i36, pu_i40, pu_i41, pu_i42, pu_i45, pu_i46, pu_i48, pu_i49, pu_i50, pu_i57, pu_i59, pu_i60, pu_i62, pu_i66, pu_i86, pu_i94, pu_i99, pu_i100, pu_i103, pu_i106, pu_i108, pu_i109, pu_i111, pu_i113, pu_i119, pu_i126, pu_i999, pu_bnd, pu_nm, pu_gd, pu_bnd2, pu_inb, pu_at, pu_put, pu_us, pu_un, pu_Rs, pu_Rn, pu_upS, pu_RR, nI_add, pk_mul, pk_sub, nI_clamp, nI_eq, nI_leI, nI_ltI, pu_nI_mI, pu_mI_nI, pu_mm, pu_nn, pu_nI_le_mI, pu_nI_lt_mI, pu_mI_lt, pu_mI_le, pu_inW, pu_inO, if_pos, if_neg, ↓reduceIte, pu_bnd3]
      exact q
    · rw [if_neg z] at q al
      simp (disch := omega) only [e12, et, al, f_X0_shareOfDecent_b46, ↓pu_m1, pu_i0, pu_i1, pu_i2, pu_i3, pu_i4, pu_i5, pu_i6, pu_i7, pu_i8, pu_i9, pu_i10, pu_i11, pu_i12, pu_i13, pu_i14, pu_i15, pu_i16, pu_i17, pu_i18, pu_i19, pu_i20, pu_i21, pu_i22, pu_i23, pu_i30, pu_i33, pu_i34, pu_i35, pu_i36, pu_i40, pu_i41, pu_i42, pu_i45, pu_i46, pu_i48, pu_i49, pu_i50, pu_i57, pu_i59, pu_i60, pu_i62, pu_i66, pu_i86, pu_i94, pu_i99, pu_i100, pu_i103, pu_i106, pu_i108, pu_i109, pu_i111, pu_i113, pu_i119, pu_i126, pu_i999, pu_bnd, pu_nm, pu_gd, pu_bnd2, pu_inb, pu_at, pu_put, pu_us, pu_un, pu_Rs, pu_Rn, pu_upS, pu_RR, nI_add, pk_mul, pk_sub, nI_clamp, nI_eq, nI_leI, nI_ltI, pu_nI_mI, pu_mI_nI, pu_mm, pu_nn, pu_nI_le_mI, pu_nI_lt_mI, pu_mI_lt, pu_mI_le, pu_inW, pu_inO, if_pos, if_neg, ↓reduceIte, pu_bnd3]
      exact q
theorem e_decent {B n : Nat} {l : Nat → Nat} {K : RK} (h : Ra B n l K) (hB : 360 * B < 2 ^ 30) : f_X0_shareOfDecent K = some (shN K n) := by
  have hn := h.n10
  have e12 := h.e12
  unfold shN
  by_cases q : n = 0
  · subst q
    rw [if_pos rfl]
    unfold f_X0_shareOfDecent
    simp (disch := omega) only [e12, ↓pu_m1, pu_i0, pu_i1, pu_i2, pu_i3, pu_i4, pu_i5, pu_i6, pu_i7, pu_i8, pu_i9, pu_i10, pu_i11, pu_i12, pu_i13, pu_i14, pu_i15, pu_i16, pu_i17, pu_i18, pu_i19, pu_i20, pu_i21, pu_i22, pu_i23, pu_i30, pu_i33, pu_i34, pu_i35, pu_i36, pu_i40, pu_i41, pu_i42, pu_i45, pu_i46, pu_i48, pu_i49, pu_i50, pu_i57, pu_i59, pu_i60, pu_i62, pu_i66, pu_i86, pu_i94, pu_i99, pu_i100, pu_i103, pu_i106, pu_i108, pu_i109, pu_i111, pu_i113, pu_i119, pu_i126, pu_i999, pu_bnd, pu_nm, pu_gd, pu_bnd2, pu_inb, pu_at, pu_put, pu_us, pu_un, pu_Rs, pu_Rn, pu_upS, pu_RR, nI_add, pk_mul, pk_sub, nI_clamp, nI_eq, nI_leI, nI_ltI, pu_nI_mI, pu_mI_nI, pu_mm, pu_nn, pu_nI_le_mI, pu_nI_lt_mI, pu_mI_lt, pu_mI_le, pu_inW, pu_inO, if_pos, if_neg, ↓reduceIte, pu_bnd3]
  · rw [if_neg q]
    have u := e_decent_l h hB (by omega) n 0 fuelN (by omega) (by unfold fuelN; omega)
    unfold f_X0_shareOfDecent
    simp (disch := omega) only [e12, ↓pu_m1, pu_i0, pu_i1, pu_i2, pu_i3, pu_i4, pu_i5, pu_i6, pu_i7, pu_i8, pu_i9, pu_i10, pu_i11, pu_i12, pu_i13, pu_i14, pu_i15, pu_i16, pu_i17, pu_i18, pu_i19, pu_i20, pu_i21, pu_i22, pu_i23, pu_i30, pu_i33, pu_i34, pu_i35, pu_i36, pu_i40, pu_i41, pu_i42, pu_i45, pu_i46, pu_i48, pu_i49, pu_i50, pu_i57, pu_i59, pu_i60, pu_i62, pu_i66, pu_i86, pu_i94, pu_i99, pu_i100, pu_i103, pu_i106, pu_i108, pu_i109, pu_i111, pu_i113, pu_i119, pu_i126, pu_i999, pu_bnd, pu_nm, pu_gd, pu_bnd2, pu_inb, pu_at, pu_put, pu_us, pu_un, pu_Rs, pu_Rn, pu_upS, pu_RR, nI_add, pk_mul, pk_sub, nI_clamp, nI_eq, nI_leI, nI_ltI, pu_nI_mI, pu_mI_nI, pu_mm, pu_nn, pu_nI_le_mI, pu_nI_lt_mI, pu_mI_lt, pu_mI_le, pu_inW, pu_inO, if_pos, if_neg, ↓reduceIte, pu_bnd3]
    exact u
