/-! the pure part: what only reads -/
theorem Rel.gs {B n : Nat} {l : Nat → Nat} {K : RK} {w : Nat → Int32} (h : Rel B n l K w) {g : Nat} (hg : g < n) : ∃ r p d c m i : Nat, (r ≤ 4 ∧ p ≤ 999 ∧ d ≤ 360 * B ∧ c ≤ 40 ∧ m ≤ 9 ∧ i ≤ 1) ∧ (K 0 g = nI r ∧ K 1 g = nI p ∧ K 2 g = nI d ∧ K 3 g = nI c ∧ K 6 g = nI m ∧ K 7 g = nI i) ∧ w (16 + 7 * g + 0) = nI r ∧ w (16 + 7 * g + 1) = nI p ∧ w (16 + 7 * g + 2) = nI d ∧ w (16 + 7 * g + 3) = nI c ∧ w (16 + 7 * g + 4) = wc K g ∧ w (16 + 7 * g + 5) = nI m ∧ w (16 + 7 * g + 6) = nI i := by
  obtain ⟨⟨r, hr, er⟩, ⟨p, hp, ep⟩, ⟨d, hd, ed⟩, ⟨c, hc, ec⟩, ⟨m, hm, em⟩, ⟨i, hi, ei⟩⟩ := h.2.1 g hg
  have a := h.2.2.2.2.2.1 g hg
  rw [er, ep, ed, ec, em, ei] at a
  exact ⟨r, p, d, c, m, i, ⟨hr, hp, hd, hc, hm, hi⟩, ⟨er, ep, ed, ec, em, ei⟩, a⟩
theorem Rel.n10 {B n : Nat} {l : Nat → Nat} {K : RK} {w : Nat → Int32} (h : Rel B n l K w) : n ≤ 10 := h.1.1
theorem t_wc {K : RK} {g : Nat} (hg : g < 10) : f_X1_wornCoat K (nI g) = some (wc K g) := by
  unfold f_X1_wornCoat wc
  by_cases h4 : K 4 g = mI <;> by_cases h5 : K 5 g = mI <;> simp (disch := omega) only [h4, h5, ↓pu_m1, pu_i0, pu_i1, pu_i2, pu_i3, pu_i4, pu_i5, pu_i6, pu_i7, pu_i8, pu_i9, pu_i10, pu_i11, pu_i12, pu_i13, pu_i14, pu_i15, pu_i16, pu_i17, pu_i18, pu_i19, pu_i20, pu_i21, pu_i22, pu_i30, pu_i33, pu_i34, pu_i36, pu_i40, pu_i42, pu_i48, pu_i49, pu_i50, pu_i57, pu_i59, pu_i60, pu_i62, pu_i86, pu_i94, pu_i99, pu_i103, pu_i106, pu_i108, pu_i109, pu_i111, pu_i113, pu_i119, pu_i126, pu_i999, pu_bnd, pu_nm, pu_gd, pu_bnd2, pu_inb, pu_at, pu_put, pu_us, pu_un, pu_Rs, pu_Rn, pu_upS, pu_RR, nI_add, pk_mul, pk_sub, nI_clamp, nI_eq, nI_leI, nI_ltI, pu_nI_mI, pu_mI_nI, pu_mm, pu_nn, pu_nI_le_mI, pu_nI_lt_mI, pu_mI_lt, pu_mI_le, pu_inW, pu_inO, if_pos, if_neg, ↓reduceIte]
def wl (K : RK) (g : Nat) : Int32 := if wc K g = mI then nI 0 else K 3 (wc K g).toNatClampNeg
theorem t_wl {n : Nat} {K : RK} (hC : IvC n K) (hn : n ≤ 10) {g : Nat} (hg : g < n) : f_X1_wornLace K (nI g) = some (wl K g) := by
  unfold f_X1_wornLace wl
  rw [t_wc (by omega), pu_bnd]
  rcases wc_cases hC hg with e | ⟨o, ho, e⟩ <;> rw [e] <;> simp (disch := omega) only [↓pu_m1, pu_i0, pu_i1, pu_i2, pu_i3, pu_i4, pu_i5, pu_i6, pu_i7, pu_i8, pu_i9, pu_i10, pu_i11, pu_i12, pu_i13, pu_i14, pu_i15, pu_i16, pu_i17, pu_i18, pu_i19, pu_i20, pu_i21, pu_i22, pu_i30, pu_i33, pu_i34, pu_i36, pu_i40, pu_i42, pu_i48, pu_i49, pu_i50, pu_i57, pu_i59, pu_i60, pu_i62, pu_i86, pu_i94, pu_i99, pu_i103, pu_i106, pu_i108, pu_i109, pu_i111, pu_i113, pu_i119, pu_i126, pu_i999, pu_bnd, pu_nm, pu_gd, pu_bnd2, pu_inb, pu_at, pu_put, pu_us, pu_un, pu_Rs, pu_Rn, pu_upS, pu_RR, nI_add, pk_mul, pk_sub, nI_clamp, nI_eq, nI_leI, nI_ltI, pu_nI_mI, pu_mI_nI, pu_mm, pu_nn, pu_nI_le_mI, pu_nI_lt_mI, pu_mI_lt, pu_mI_le, pu_inW, pu_inO, if_pos, if_neg, ↓reduceIte]
theorem wl_val {B n : Nat} {l : Nat → Nat} {K : RK} {w : Nat → Int32} (h : Rel B n l K w) {g : Nat} (hg : g < n) : ∃ c : Nat, c ≤ 40 ∧ wl K g = nI c ∧ ((wc K g = mI ∧ c = 0) ∨ ∃ o : Nat, o < n ∧ wc K g = nI o ∧ K 3 o = nI c) := by
  have hn := h.n10
  unfold wl
  rcases wc_cases h.2.2.1 hg with e | ⟨o, ho, e⟩
  · exact ⟨0, by omega, by rw [e, if_pos rfl], Or.inl ⟨e, rfl⟩⟩
  · obtain ⟨r, p, d, c, m, i, hb, hk, -⟩ := h.gs ho
    refine ⟨c, hb.2.2.2.1, ?_, Or.inr ⟨o, ho, e, hk.2.2.2.1⟩⟩
    rw [e, if_neg (nI_nm (by omega)), nI_clamp (by omega)]
    exact hk.2.2.2.1
theorem t_isIn {K : RK} {g i : Nat} (hg : g < 10) (hi : i ≤ 1) (h : K 7 g = nI i) : f_X1_isIn K (nI g) = some (nI i) := by
  unfold f_X1_isIn
  rcases (show i = 0 ∨ i = 1 by omega) with e | e <;> subst e <;> simp (disch := omega) only [h, ↓pu_m1, pu_i0, pu_i1, pu_i2, pu_i3, pu_i4, pu_i5, pu_i6, pu_i7, pu_i8, pu_i9, pu_i10, pu_i11, pu_i12, pu_i13, pu_i14, pu_i15, pu_i16, pu_i17, pu_i18, pu_i19, pu_i20, pu_i21, pu_i22, pu_i30, pu_i33, pu_i34, pu_i36, pu_i40, pu_i42, pu_i48, pu_i49, pu_i50, pu_i57, pu_i59, pu_i60, pu_i62, pu_i86, pu_i94, pu_i99, pu_i103, pu_i106, pu_i108, pu_i109, pu_i111, pu_i113, pu_i119, pu_i126, pu_i999, pu_bnd, pu_nm, pu_gd, pu_bnd2, pu_inb, pu_at, pu_put, pu_us, pu_un, pu_Rs, pu_Rn, pu_upS, pu_RR, nI_add, pk_mul, pk_sub, nI_clamp, nI_eq, nI_leI, nI_ltI, pu_nI_mI, pu_mI_nI, pu_mm, pu_nn, pu_nI_le_mI, pu_nI_lt_mI, pu_mI_lt, pu_mI_le, pu_inW, pu_inO, if_pos, if_neg, ↓reduceIte]
def nInL (l : Nat → Nat) (K : RK) (g : Nat) : Prop := ∀ c : Nat, c < 3 → ∀ k : Nat, k < l c → K 8 (c * 10 + k) ≠ nI g
/-! the pure part: ells, fines, gates, sums -/
def al (a0 a1 a2 c r t : Nat) : Nat := if c = 1 then a0 + a1 * r - 2 else if c = 2 then a0 + a1 * r + t % 3 * a2 else a0 + a1 * r
theorem t_masked {B n : Nat} {l : Nat → Nat} {K : RK} {w : Nat → Int32} (h : Rel B n l K w) {g p m : Nat} (hg : g < n) (hp : p ≤ 999) (hm : m ≤ 9) (ep : K 1 g = nI p) (em : K 6 g = nI m) : f_X0_passesMasked K (nI g) = some (if wc K g = mI then nI 0 else if m = 0 then nI 0 else if p = 0 then nI 0 else nI 1) := by
  have hn := h.n10
  unfold f_X0_passesMasked
  rw [t_wc (by omega)]
  by_cases h1 : wc K g = mI
  · simp (disch := omega) only [h1, ↓pu_m1, pu_i0, pu_i1, pu_i2, pu_i3, pu_i4, pu_i5, pu_i6, pu_i7, pu_i8, pu_i9, pu_i10, pu_i11, pu_i12, pu_i13, pu_i14, pu_i15, pu_i16, pu_i17, pu_i18, pu_i19, pu_i20, pu_i21, pu_i22, pu_i30, pu_i33, pu_i34, pu_i36, pu_i40, pu_i42, pu_i48, pu_i49, pu_i50, pu_i57, pu_i59, pu_i60, pu_i62, pu_i86, pu_i94, pu_i99, pu_i103, pu_i106, pu_i108, pu_i109, pu_i111, pu_i113, pu_i119, pu_i126, pu_i999, pu_bnd, pu_nm, pu_gd, pu_bnd2, pu_inb, pu_at, pu_put, pu_us, pu_un, pu_Rs, pu_Rn, pu_upS, pu_RR, nI_add, pk_mul, pk_sub, nI_clamp, nI_eq, nI_leI, nI_ltI, pu_nI_mI, pu_mI_nI, pu_mm, pu_nn, pu_nI_le_mI, pu_nI_lt_mI, pu_mI_lt, pu_mI_le, pu_inW, pu_inO, if_pos, if_neg, ↓reduceIte]
  · by_cases h2 : m = 0
    · subst h2
      simp (disch := omega) only [h1, em, ↓pu_m1, pu_i0, pu_i1, pu_i2, pu_i3, pu_i4, pu_i5, pu_i6, pu_i7, pu_i8, pu_i9, pu_i10, pu_i11, pu_i12, pu_i13, pu_i14, pu_i15, pu_i16, pu_i17, pu_i18, pu_i19, pu_i20, pu_i21, pu_i22, pu_i30, pu_i33, pu_i34, pu_i36, pu_i40, pu_i42, pu_i48, pu_i49, pu_i50, pu_i57, pu_i59, pu_i60, pu_i62, pu_i86, pu_i94, pu_i99, pu_i103, pu_i106, pu_i108, pu_i109, pu_i111, pu_i113, pu_i119, pu_i126, pu_i999, pu_bnd, pu_nm, pu_gd, pu_bnd2, pu_inb, pu_at, pu_put, pu_us, pu_un, pu_Rs, pu_Rn, pu_upS, pu_RR, nI_add, pk_mul, pk_sub, nI_clamp, nI_eq, nI_leI, nI_ltI, pu_nI_mI, pu_mI_nI, pu_mm, pu_nn, pu_nI_le_mI, pu_nI_lt_mI, pu_mI_lt, pu_mI_le, pu_inW, pu_inO, if_pos, if_neg, ↓reduceIte]
    · by_cases h3 : p = 0
      · subst h3
        simp (disch := omega) only [h1, em, ep, ↓pu_m1, pu_i0, pu_i1, pu_i2, pu_i3, pu_i4, pu_i5, pu_i6, pu_i7, pu_i8, pu_i9, pu_i10, pu_i11, pu_i12, pu_i13, pu_i14, pu_i15, pu_i16, pu_i17, pu_i18, pu_i19, pu_i20, pu_i21, pu_i22, pu_i30, pu_i33, pu_i34, pu_i36, pu_i40, pu_i42, pu_i48, pu_i49, pu_i50, pu_i57, pu_i59, pu_i60, pu_i62, pu_i86, pu_i94, pu_i99, pu_i103, pu_i106, pu_i108, pu_i109, pu_i111, pu_i113, pu_i119, pu_i126, pu_i999, pu_bnd, pu_nm, pu_gd, pu_bnd2, pu_inb, pu_at, pu_put, pu_us, pu_un, pu_Rs, pu_Rn, pu_upS, pu_RR, nI_add, pk_mul, pk_sub, nI_clamp, nI_eq, nI_leI, nI_ltI, pu_nI_mI, pu_mI_nI, pu_mm, pu_nn, pu_nI_le_mI, pu_nI_lt_mI, pu_mI_lt, pu_mI_le, pu_inW, pu_inO, if_pos, if_neg, ↓reduceIte]
      · simp (disch := omega) only [h1, em, ep, ↓pu_m1, pu_i0, pu_i1, pu_i2, pu_i3, pu_i4, pu_i5, pu_i6, pu_i7, pu_i8, pu_i9, pu_i10, pu_i11, pu_i12, pu_i13, pu_i14, pu_i15, pu_i16, pu_i17, pu_i18, pu_i19, pu_i20, pu_i21, pu_i22, pu_i30, pu_i33, pu_i34, pu_i36, pu_i40, pu_i42, pu_i48, pu_i49, pu_i50, pu_i57, pu_i59, pu_i60, pu_i62, pu_i86, pu_i94, pu_i99, pu_i103, pu_i106, pu_i108, pu_i109, pu_i111, pu_i113, pu_i119, pu_i126, pu_i999, pu_bnd, pu_nm, pu_gd, pu_bnd2, pu_inb, pu_at, pu_put, pu_us, pu_un, pu_Rs, pu_Rn, pu_upS, pu_RR, nI_add, pk_mul, pk_sub, nI_clamp, nI_eq, nI_leI, nI_ltI, pu_nI_mI, pu_mI_nI, pu_mm, pu_nn, pu_nI_le_mI, pu_nI_lt_mI, pu_mI_lt, pu_mI_le, pu_inW, pu_inO, if_pos, if_neg, ↓reduceIte]
def ha (K : RK) (g left : Nat) : Int32 := if K 4 g = mI then nI 0 else imin (nI (left / 2)) (K 1 (K 4 g).toNatClampNeg)
theorem ha_val {B n : Nat} {l : Nat → Nat} {K : RK} {w : Nat → Int32} (h : Rel B n l K w) {g left : Nat} (hg : g < n) (hl : left < 2 ^ 30) : ∃ y : Nat, y ≤ left ∧ ha K g left = nI y ∧ ((K 4 g = mI ∧ y = 0) ∨ ∃ o q : Nat, o < n ∧ o ≠ g ∧ K 4 g = nI o ∧ K 1 o = nI q ∧ q ≤ 999 ∧ y ≤ q) := by
  have hn := h.n10
  unfold ha
  rcases (h.2.2.1 g hg).1 with e | ⟨o, h1, h2, e, h5⟩
  · exact ⟨0, by omega, by rw [e, if_pos rfl], Or.inl ⟨e, rfl⟩⟩
  · obtain ⟨r, p, d, c, m, i, hb, hk, -⟩ := h.gs h1
    refine ⟨min (left / 2) p, by omega, ?_, Or.inr ⟨o, p, h1, h2, e, hk.2.1, hb.2.1, by omega⟩⟩
    rw [e, if_neg (nI_nm (by omega)), nI_clamp (by omega), hk.2.1, pu_min (by omega) (by omega)]
theorem t_byLender {B n : Nat} {l : Nat → Nat} {K : RK} {w : Nat → Int32} (h : Rel B n l K w) {g left : Nat} (hg : g < n) (hl : left < 2 ^ 30) : f_X0_paidByLender K (nI g) (nI left) = some (ha K g left) := by
  have hn := h.n10
  have e2 : nI left / nI 2 = nI (left / 2) := pk_div (by omega) (by omega) (by omega)
  unfold f_X0_paidByLender ha
  rcases (h.2.2.1 g hg).1 with e | ⟨o, h1, h2, e, h5⟩
  · rw [e]
    simp (disch := omega) only [e, ↓pu_m1, pu_i0, pu_i1, pu_i2, pu_i3, pu_i4, pu_i5, pu_i6, pu_i7, pu_i8, pu_i9, pu_i10, pu_i11, pu_i12, pu_i13, pu_i14, pu_i15, pu_i16, pu_i17, pu_i18, pu_i19, pu_i20, pu_i21, pu_i22, pu_i30, pu_i33, pu_i34, pu_i36, pu_i40, pu_i42, pu_i48, pu_i49, pu_i50, pu_i57, pu_i59, pu_i60, pu_i62, pu_i86, pu_i94, pu_i99, pu_i103, pu_i106, pu_i108, pu_i109, pu_i111, pu_i113, pu_i119, pu_i126, pu_i999, pu_bnd, pu_nm, pu_gd, pu_bnd2, pu_inb, pu_at, pu_put, pu_us, pu_un, pu_Rs, pu_Rn, pu_upS, pu_RR, nI_add, pk_mul, pk_sub, nI_clamp, nI_eq, nI_leI, nI_ltI, pu_nI_mI, pu_mI_nI, pu_mm, pu_nn, pu_nI_le_mI, pu_nI_lt_mI, pu_mI_lt, pu_mI_le, pu_inW, pu_inO, if_pos, if_neg, ↓reduceIte]
  · rw [e]
    simp (disch := omega) only [e, e2, ↓pu_m1, pu_i0, pu_i1, pu_i2, pu_i3, pu_i4, pu_i5, pu_i6, pu_i7, pu_i8, pu_i9, pu_i10, pu_i11, pu_i12, pu_i13, pu_i14, pu_i15, pu_i16, pu_i17, pu_i18, pu_i19, pu_i20, pu_i21, pu_i22, pu_i30, pu_i33, pu_i34, pu_i36, pu_i40, pu_i42, pu_i48, pu_i49, pu_i50, pu_i57, pu_i59, pu_i60, pu_i62, pu_i86, pu_i94, pu_i99, pu_i103, pu_i106, pu_i108, pu_i109, pu_i111, pu_i113, pu_i119, pu_i126, pu_i999, pu_bnd, pu_nm, pu_gd, pu_bnd2, pu_inb, pu_at, pu_put, pu_us, pu_un, pu_Rs, pu_Rn, pu_upS, pu_RR, nI_add, pk_mul, pk_sub, nI_clamp, nI_eq, nI_leI, nI_ltI, pu_nI_mI, pu_mI_nI, pu_mm, pu_nn, pu_nI_le_mI, pu_nI_lt_mI, pu_mI_lt, pu_mI_le, pu_inW, pu_inO, if_pos, if_neg, ↓reduceIte]
/-! the pure part: what a gate would bring, the best gate, nights, shares -/
def bst (E l : Nat → Nat) (b c : Nat) : Nat := if E c < E b ∨ (E c = E b ∧ l c < l b) then c else b
theorem t_best1 {K : RK} {g b c F : Nat} {E l : Nat → Nat} (hE : ∀ c, c < 3 → E c ≤ 40 ∧ f_X0_ellsTooMuch K (nI g) (nI c) = some (nI (E c))) (h9 : ∀ c : Nat, c < 3 → K 9 c = nI (l c)) (hl : ∀ c : Nat, c < 3 → l c ≤ 10) (hb : b < 3) (hc : c < 3) : f_X0_gateOfFewestElls_l4 K (F + 1) (nI g) (nI b) (nI c) = f_X0_gateOfFewestElls_l4 K F (nI g) (nI (bst E l b c)) (nI (c + 1)) := by
  have hb1 := hE b hb
  have hc1 := hE c hc
  have lb := hl b hb
  have lc := hl c hc
  rw [show f_X0_gateOfFewestElls_l4 K (F + 1) (nI g) (nI b) (nI c) = _ from by unfold f_X0_gateOfFewestElls_l4; rfl]
  simp (disch := omega) only [hb1.2, hc1.2, h9 b hb, h9 c hc, f_X0_gateOfFewestElls_b54, f_X0_gateOfFewestElls_b71, f_X0_gateOfFewestElls_b73, ↓pu_m1, pu_i0, pu_i1, pu_i2, pu_i3, pu_i4, pu_i5, pu_i6, pu_i7, pu_i8, pu_i9, pu_i10, pu_i11, pu_i12, pu_i13, pu_i14, pu_i15, pu_i16, pu_i17, pu_i18, pu_i19, pu_i20, pu_i21, pu_i22, pu_i30, pu_i33, pu_i34, pu_i36, pu_i40, pu_i42, pu_i48, pu_i49, pu_i50, pu_i57, pu_i59, pu_i60, pu_i62, pu_i86, pu_i94, pu_i99, pu_i103, pu_i106, pu_i108, pu_i109, pu_i111, pu_i113, pu_i119, pu_i126, pu_i999, pu_bnd, pu_nm, pu_gd, pu_bnd2, pu_inb, pu_at, pu_put, pu_us, pu_un, pu_Rs, pu_Rn, pu_upS, pu_RR, nI_add, pk_mul, pk_sub, nI_clamp, nI_eq, nI_leI, nI_ltI, pu_nI_mI, pu_mI_nI, pu_mm, pu_nn, pu_nI_le_mI, pu_nI_lt_mI, pu_mI_lt, pu_mI_le, pu_inW, pu_inO, if_pos, if_neg, ↓reduceIte]
  unfold bst
  by_cases q1 : E c < E b
  · have n1 : nI (E c) - nI (E b) < nI 0 := pk_sneg (by omega) q1
    by_cases q2 : l b ≤ l c
    · simp only [q1, q2, n1, true_or, if_true]
    · simp only [q1, q2, n1, true_or, if_true, if_false]
  · have e1 : nI (E c) - nI (E b) = nI (E c - E b) := pk_sub (by omega)
    have n1 : ¬ nI (E c - E b) < nI 0 := nI_nlt (by omega) (by omega)
    by_cases q3 : E c = E b
    · have n2 : nI (E c - E b) = nI 0 := by rw [show E c - E b = 0 from by omega]
      by_cases q2 : l b ≤ l c
      · have q4 : ¬ (E c < E b ∨ (E c = E b ∧ l c < l b)) := by omega
        rw [if_neg q4]
        simp (disch := omega) only [e1, n1, n2, ↓pu_m1, pu_i0, pu_i1, pu_i2, pu_i3, pu_i4, pu_i5, pu_i6, pu_i7, pu_i8, pu_i9, pu_i10, pu_i11, pu_i12, pu_i13, pu_i14, pu_i15, pu_i16, pu_i17, pu_i18, pu_i19, pu_i20, pu_i21, pu_i22, pu_i30, pu_i33, pu_i34, pu_i36, pu_i40, pu_i42, pu_i48, pu_i49, pu_i50, pu_i57, pu_i59, pu_i60, pu_i62, pu_i86, pu_i94, pu_i99, pu_i103, pu_i106, pu_i108, pu_i109, pu_i111, pu_i113, pu_i119, pu_i126, pu_i999, pu_bnd, pu_nm, pu_gd, pu_bnd2, pu_inb, pu_at, pu_put, pu_us, pu_un, pu_Rs, pu_Rn, pu_upS, pu_RR, nI_add, pk_mul, pk_sub, nI_clamp, nI_eq, nI_leI, nI_ltI, pu_nI_mI, pu_mI_nI, pu_mm, pu_nn, pu_nI_le_mI, pu_nI_lt_mI, pu_mI_lt, pu_mI_le, pu_inW, pu_inO, if_pos, if_neg, ↓reduceIte]
      · have q4 : (E c < E b ∨ (E c = E b ∧ l c < l b)) := by omega
        rw [if_pos q4]
        simp (disch := omega) only [e1, n1, n2, ↓pu_m1, pu_i0, pu_i1, pu_i2, pu_i3, pu_i4, pu_i5, pu_i6, pu_i7, pu_i8, pu_i9, pu_i10, pu_i11, pu_i12, pu_i13, pu_i14, pu_i15, pu_i16, pu_i17, pu_i18, pu_i19, pu_i20, pu_i21, pu_i22, pu_i30, pu_i33, pu_i34, pu_i36, pu_i40, pu_i42, pu_i48, pu_i49, pu_i50, pu_i57, pu_i59, pu_i60, pu_i62, pu_i86, pu_i94, pu_i99, pu_i103, pu_i106, pu_i108, pu_i109, pu_i111, pu_i113, pu_i119, pu_i126, pu_i999, pu_bnd, pu_nm, pu_gd, pu_bnd2, pu_inb, pu_at, pu_put, pu_us, pu_un, pu_Rs, pu_Rn, pu_upS, pu_RR, nI_add, pk_mul, pk_sub, nI_clamp, nI_eq, nI_leI, nI_ltI, pu_nI_mI, pu_mI_nI, pu_mm, pu_nn, pu_nI_le_mI, pu_nI_lt_mI, pu_mI_lt, pu_mI_le, pu_inW, pu_inO, if_pos, if_neg, ↓reduceIte]
    · have n2 : ¬ nI (E c - E b) = nI 0 := by rw [nI_eq (by omega) (by omega)]; omega
      have q4 : ¬ (E c < E b ∨ (E c = E b ∧ l c < l b)) := by omega
      rw [if_neg q4]
      by_cases q2 : l b ≤ l c
      · simp (disch := omega) only [e1, n1, n2, ↓pu_m1, pu_i0, pu_i1, pu_i2, pu_i3, pu_i4, pu_i5, pu_i6, pu_i7, pu_i8, pu_i9, pu_i10, pu_i11, pu_i12, pu_i13, pu_i14, pu_i15, pu_i16, pu_i17, pu_i18, pu_i19, pu_i20, pu_i21, pu_i22, pu_i30, pu_i33, pu_i34, pu_i36, pu_i40, pu_i42, pu_i48, pu_i49, pu_i50, pu_i57, pu_i59, pu_i60, pu_i62, pu_i86, pu_i94, pu_i99, pu_i103, pu_i106, pu_i108, pu_i109, pu_i111, pu_i113, pu_i119, pu_i126, pu_i999, pu_bnd, pu_nm, pu_gd, pu_bnd2, pu_inb, pu_at, pu_put, pu_us, pu_un, pu_Rs, pu_Rn, pu_upS, pu_RR, nI_add, pk_mul, pk_sub, nI_clamp, nI_eq, nI_leI, nI_ltI, pu_nI_mI, pu_mI_nI, pu_mm, pu_nn, pu_nI_le_mI, pu_nI_lt_mI, pu_mI_lt, pu_mI_le, pu_inW, pu_inO, if_pos, if_neg, ↓reduceIte]
      · simp (disch := omega) only [e1, n1, n2, ↓pu_m1, pu_i0, pu_i1, pu_i2, pu_i3, pu_i4, pu_i5, pu_i6, pu_i7, pu_i8, pu_i9, pu_i10, pu_i11, pu_i12, pu_i13, pu_i14, pu_i15, pu_i16, pu_i17, pu_i18, pu_i19, pu_i20, pu_i21, pu_i22, pu_i30, pu_i33, pu_i34, pu_i36, pu_i40, pu_i42, pu_i48, pu_i49, pu_i50, pu_i57, pu_i59, pu_i60, pu_i62, pu_i86, pu_i94, pu_i99, pu_i103, pu_i106, pu_i108, pu_i109, pu_i111, pu_i113, pu_i119, pu_i126, pu_i999, pu_bnd, pu_nm, pu_gd, pu_bnd2, pu_inb, pu_at, pu_put, pu_us, pu_un, pu_Rs, pu_Rn, pu_upS, pu_RR, nI_add, pk_mul, pk_sub, nI_clamp, nI_eq, nI_leI, nI_ltI, pu_nI_mI, pu_mI_nI, pu_mm, pu_nn, pu_nI_le_mI, pu_nI_lt_mI, pu_mI_lt, pu_mI_le, pu_inW, pu_inO, if_pos, if_neg, ↓reduceIte]
/-! the pure part: a guest's numbers, the counts -/
theorem t_shl0 : ∀ i : Nat, i < 10 → nI 0 <<< (nI i &&& 31) = nI 0 := by decide +kernel
theorem t_sum3 {l : Nat → Nat} {K : RK} (h9 : ∀ c : Nat, c < 3 → K 9 c = nI (l c)) : f_X5_sumOf 3 (K 9) (nI 3) = some (nI (l 0 + l 1 + l 2)) := by
  have s : ∀ (F i : Nat) (x : Int32), i < 3 → f_X5_sumOf_l4 3 (K 9) (F + 1) (nI 3) x (nI i) = f_X5_sumOf_l4 3 (K 9) F (nI 3) (x + nI (l i)) (nI (i + 1)) := by
    intro F i x hi
    have := h9 i hi
    rw [show f_X5_sumOf_l4 3 (K 9) (F + 1) (nI 3) x (nI i) = _ from by unfold f_X5_sumOf_l4; rfl]
    simp (disch := omega) only [this, ↓pu_m1, pu_i0, pu_i1, pu_i2, pu_i3, pu_i4, pu_i5, pu_i6, pu_i7, pu_i8, pu_i9, pu_i10, pu_i11, pu_i12, pu_i13, pu_i14, pu_i15, pu_i16, pu_i17, pu_i18, pu_i19, pu_i20, pu_i21, pu_i22, pu_i30, pu_i33, pu_i34, pu_i36, pu_i40, pu_i42, pu_i48, pu_i49, pu_i50, pu_i57, pu_i59, pu_i60, pu_i62, pu_i86, pu_i94, pu_i99, pu_i103, pu_i106, pu_i108, pu_i109, pu_i111, pu_i113, pu_i119, pu_i126, pu_i999, pu_bnd, pu_nm, pu_gd, pu_bnd2, pu_inb, pu_at, pu_put, pu_us, pu_un, pu_Rs, pu_Rn, pu_upS, pu_RR, nI_add, pk_mul, pk_sub, nI_clamp, nI_eq, nI_leI, nI_ltI, pu_nI_mI, pu_mI_nI, pu_mm, pu_nn, pu_nI_le_mI, pu_nI_lt_mI, pu_mI_lt, pu_mI_le, pu_inW, pu_inO, if_pos, if_neg, ↓reduceIte]
  have e : ∀ (F : Nat) (x : Int32), f_X5_sumOf_l4 3 (K 9) (F + 1) (nI 3) x (nI 3) = some x := by
    intro F x
    rw [show f_X5_sumOf_l4 3 (K 9) (F + 1) (nI 3) x (nI 3) = _ from by unfold f_X5_sumOf_l4; rfl]
    simp (disch := omega) only [↓pu_m1, pu_i0, pu_i1, pu_i2, pu_i3, pu_i4, pu_i5, pu_i6, pu_i7, pu_i8, pu_i9, pu_i10, pu_i11, pu_i12, pu_i13, pu_i14, pu_i15, pu_i16, pu_i17, pu_i18, pu_i19, pu_i20, pu_i21, pu_i22, pu_i30, pu_i33, pu_i34, pu_i36, pu_i40, pu_i42, pu_i48, pu_i49, pu_i50, pu_i57, pu_i59, pu_i60, pu_i62, pu_i86, pu_i94, pu_i99, pu_i103, pu_i106, pu_i108, pu_i109, pu_i111, pu_i113, pu_i119, pu_i126, pu_i999, pu_bnd, pu_nm, pu_gd, pu_bnd2, pu_inb, pu_at, pu_put, pu_us, pu_un, pu_Rs, pu_Rn, pu_upS, pu_RR, nI_add, pk_mul, pk_sub, nI_clamp, nI_eq, nI_leI, nI_ltI, pu_nI_mI, pu_mI_nI, pu_mm, pu_nn, pu_nI_le_mI, pu_nI_lt_mI, pu_mI_lt, pu_mI_le, pu_inW, pu_inO, if_pos, if_neg, ↓reduceIte]
  have u : f_X5_sumOf 3 (K 9) (nI 3) = some (nI 0 + nI (l 0) + nI (l 1) + nI (l 2)) := (s 999 0 (nI 0) (by omega)).trans ((s 998 1 _ (by omega)).trans ((s 997 2 _ (by omega)).trans (e 996 _)))
  rw [u, nI_add, nI_add, nI_add, Nat.zero_add]