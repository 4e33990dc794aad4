/-! the pure part of p33: every state holds what it must -/
theorem wc_three {B n : Nat} {l : Nat → Nat} {K : RK} (h : Ra B n l K) {g : Nat} (hg : g < n) : (K 4 g = mI ∧ K 5 g = mI ∧ wc K g = nI g) ∨ (K 4 g = mI ∧ ∃ b : Nat, b < n ∧ b ≠ g ∧ K 5 g = nI b ∧ K 4 b = nI g ∧ wc K g = mI) ∨ ∃ o : Nat, o < n ∧ o ≠ g ∧ K 4 g = nI o ∧ K 5 o = nI g ∧ wc K g = nI o := by
  have hn := h.n10
  obtain ⟨c1, c2⟩ := h.c g hg
  rcases c1 with e | ⟨o, o1, o2, o3, o4⟩
  · rcases c2 with e5 | ⟨b, b1, b2, b3, b4⟩
    · exact Or.inl ⟨e, e5, by unfold wc; rw [if_pos e, if_pos e5]⟩
    · exact Or.inr (Or.inl ⟨e, b, b1, b2, b3, b4, by unfold wc; rw [if_pos e, b3, if_neg (nI_nm (by omega))]⟩)
  · exact Or.inr (Or.inr ⟨o, o1, o2, o3, o4, by unfold wc; rw [o3, if_neg (nI_nm (by omega))]⟩)
theorem wc_to {K : RK} {b g : Nat} (hg : g < 10) (e : K 4 b = nI g) : wc K b = nI g := by
  unfold wc
  rw [e, if_neg (nI_nm (by omega))]
abbrev K92 : Type := (Nat → Int32) → Int32 → Int32 → Int32 → Int32 → Int32 → Int32 → Option Int32
section HO
variable {B n : Nat} {l : Nat → Nat} {K : RK}
theorem h_425 (h : Ra B n l K) (hB : 360 * B < 2 ^ 30) {i : Nat} (hi : i < n) (k : K92) (O : XO) (S : Nat → Int32) (x3 x4 x5 : Int32) : f_L_holds_b425 k O K S (nI n) x3 x4 x5 (nI i) (nI 1) = k S (nI n) x3 x4 x5 (nI 1) (nI (i + 1)) := by
  have hn := h.n10
  obtain ⟨g0, g1, g2, g3, -⟩ := e_guest h hi
  obtain ⟨-, ⟨e1, b1⟩, ⟨e2, b2⟩, ⟨e3, b3⟩, -⟩ := h.k hB hi
  have nl := e_noLoan1 h hi
  rw [e1] at g1
  rw [e2] at g2
  rw [e3] at g3
  unfold f_L_holds_b425
  simp (disch := omega) only [g1, g2, g3, nl, f_L_holds_b492, ↓pu_m1, pu_i0, pu_i1, pu_i2, pu_i3, pu_i4, pu_i5, pu_i6, pu_i7, pu_i8, pu_i9, pu_i10, pu_i11, pu_i12, pu_i13, pu_i14, pu_i15, pu_i16, pu_i17, pu_i18, pu_i19, pu_i20, pu_i21, pu_i22, pu_i23, pu_i30, pu_i33, pu_i34, pu_i35, pu_i36, pu_i40, pu_i41, pu_i42, pu_i45, pu_i46, pu_i48, pu_i49, pu_i50, pu_i57, pu_i59, pu_i60, pu_i62, pu_i66, pu_i86, pu_i94, pu_i99, pu_i100, pu_i103, pu_i106, pu_i108, pu_i109, pu_i111, pu_i113, pu_i119, pu_i126, pu_i999, pu_bnd, pu_nm, pu_gd, pu_bnd2, pu_inb, pu_at, pu_put, pu_us, pu_un, pu_Rs, pu_Rn, pu_upS, pu_RR, nI_add, pk_mul, pk_sub, nI_clamp, nI_eq, nI_leI, nI_ltI, pu_nI_mI, pu_mI_nI, pu_mm, pu_nn, pu_nI_le_mI, pu_nI_lt_mI, pu_mI_lt, pu_mI_le, pu_inW, pu_inO, if_pos, if_neg, ↓reduceIte, pu_bnd3]
theorem h_358 (h : Ra B n l K) (hI : IvI n l K) (hB : 360 * B < 2 ^ 30) {i : Nat} (hi : i < n) (k : K92) (O : XO) (S : Nat → Int32) (x3 x4 x5 : Int32) : f_L_holds_b358 k O K S (nI n) x3 x4 x5 (nI i) (gx K i) = k S (nI n) x3 x4 x5 (nI 1) (nI (i + 1)) := by
  have hn := h.n10
  have t := h_425 h hB hi k O S x3 x4 x5
  obtain ⟨-, -, -, -, -, -, -, g7, -, g9, -⟩ := e_guest h hi
  rcases (e_gate h.l hn hi).2.2 with ⟨q1, q2, q3⟩ | ⟨c, j, c1, c2, c3, c4, c5⟩
  · rw [q3] at g9
    rw [q2]
    unfold f_L_holds_b358
    simp (disch := omega) only [f_L_holds_b368, g9, f_L_holds_b384, f_L_holds_b420, ↓pu_m1, pu_i0, pu_i1, pu_i2, pu_i3, pu_i4, pu_i5, pu_i6, pu_i7, pu_i8, pu_i9, pu_i10, pu_i11, pu_i12, pu_i13, pu_i14, pu_i15, pu_i16, pu_i17, pu_i18, pu_i19, pu_i20, pu_i21, pu_i22, pu_i23, pu_i30, pu_i33, pu_i34, pu_i35, pu_i36, pu_i40, pu_i41, pu_i42, pu_i45, pu_i46, pu_i48, pu_i49, pu_i50, pu_i57, pu_i59, pu_i60, pu_i62, pu_i66, pu_i86, pu_i94, pu_i99, pu_i100, pu_i103, pu_i106, pu_i108, pu_i109, pu_i111, pu_i113, pu_i119, pu_i126, pu_i999, pu_bnd, pu_nm, pu_gd, pu_bnd2, pu_inb, pu_at, pu_put, pu_us, pu_un, pu_Rs, pu_Rn, pu_upS, pu_RR, nI_add, pk_mul, pk_sub, nI_clamp, nI_eq, nI_leI, nI_ltI, pu_nI_mI, pu_mI_nI, pu_mm, pu_nn, pu_nI_le_mI, pu_nI_lt_mI, pu_mI_lt, pu_mI_le, pu_inW, pu_inO, if_pos, if_neg, ↓reduceIte, pu_bnd3]
    exact t
  · have lc := h.l.2.2.1 c c1
    have e7 := hI c c1 j c2 i hi c3
    have ln := e_line h c1
    rw [e7] at g7
    rw [c5] at g9
    rw [c4]
    unfold f_L_holds_b358
    simp (disch := omega) only [f_L_holds_b368, g9, f_L_holds_b384, g7, ln, f_L_holds_b420, ↓pu_m1, pu_i0, pu_i1, pu_i2, pu_i3, pu_i4, pu_i5, pu_i6, pu_i7, pu_i8, pu_i9, pu_i10, pu_i11, pu_i12, pu_i13, pu_i14, pu_i15, pu_i16, pu_i17, pu_i18, pu_i19, pu_i20, pu_i21, pu_i22, pu_i23, pu_i30, pu_i33, pu_i34, pu_i35, pu_i36, pu_i40, pu_i41, pu_i42, pu_i45, pu_i46, pu_i48, pu_i49, pu_i50, pu_i57, pu_i59, pu_i60, pu_i62, pu_i66, pu_i86, pu_i94, pu_i99, pu_i100, pu_i103, pu_i106, pu_i108, pu_i109, pu_i111, pu_i113, pu_i119, pu_i126, pu_i999, pu_bnd, pu_nm, pu_gd, pu_bnd2, pu_inb, pu_at, pu_put, pu_us, pu_un, pu_Rs, pu_Rn, pu_upS, pu_RR, nI_add, pk_mul, pk_sub, nI_clamp, nI_eq, nI_leI, nI_ltI, pu_nI_mI, pu_mI_nI, pu_mm, pu_nn, pu_nI_le_mI, pu_nI_lt_mI, pu_mI_lt, pu_mI_le, pu_inW, pu_inO, if_pos, if_neg, ↓reduceIte, pu_bnd3]
    exact t
theorem h_324 (h : Ra B n l K) (hI : IvI n l K) (hB : 360 * B < 2 ^ 30) {i : Nat} (hi : i < n) (k : K92) (O : XO) (S : Nat → Int32) (x3 x4 x5 : Int32) : f_L_holds_b324 k O K S (nI n) x3 x4 x5 (nI i) (wc K i) (K 5 i) (gx K i) = k S (nI n) x3 x4 x5 (nI 1) (nI (i + 1)) := by
  have hn := h.n10
  have t := h_358 h hI hB hi k O S x3 x4 x5
  have c2 := (h.c i hi).2
  have tw : ∀ b : Nat, b < n → K 4 b = nI i → f_X5_guest K (nI b) (nI 4) = some (nI i) := by
    intro b hb e
    have := (e_guest h hb).2.2.2.2.1
    rw [wc_to (by omega) e] at this
    exact this
  unfold f_L_holds_b324
  rcases wc_three h hi with ⟨q1, q2, q3⟩ | ⟨q1, b, b1, b2, b3, b4, b5⟩ | ⟨o, o1, o2, o3, o4, o5⟩
  · rw [q2, q3]
    simp (disch := omega) only [f_L_holds_b348, ↓pu_m1, pu_i0, pu_i1, pu_i2, pu_i3, pu_i4, pu_i5, pu_i6, pu_i7, pu_i8, pu_i9, pu_i10, pu_i11, pu_i12, pu_i13, pu_i14, pu_i15, pu_i16, pu_i17, pu_i18, pu_i19, pu_i20, pu_i21, pu_i22, pu_i23, pu_i30, pu_i33, pu_i34, pu_i35, pu_i36, pu_i40, pu_i41, pu_i42, pu_i45, pu_i46, pu_i48, pu_i49, pu_i50, pu_i57, pu_i59, pu_i60, pu_i62, pu_i66, pu_i86, pu_i94, pu_i99, pu_i100, pu_i103, pu_i106, pu_i108, pu_i109, pu_i111, pu_i113, pu_i119, pu_i126, pu_i999, pu_bnd, pu_nm, pu_gd, pu_bnd2, pu_inb, pu_at, pu_put, pu_us, pu_un, pu_Rs, pu_Rn, pu_upS, pu_RR, nI_add, pk_mul, pk_sub, nI_clamp, nI_eq, nI_leI, nI_ltI, pu_nI_mI, pu_mI_nI, pu_mm, pu_nn, pu_nI_le_mI, pu_nI_lt_mI, pu_mI_lt, pu_mI_le, pu_inW, pu_inO, if_pos, if_neg, ↓reduceIte, pu_bnd3]
    exact t
  · have w := tw b b1 b4
    rw [b3, b5]
    simp (disch := omega) only [w, f_L_holds_b348, ↓pu_m1, pu_i0, pu_i1, pu_i2, pu_i3, pu_i4, pu_i5, pu_i6, pu_i7, pu_i8, pu_i9, pu_i10, pu_i11, pu_i12, pu_i13, pu_i14, pu_i15, pu_i16, pu_i17, pu_i18, pu_i19, pu_i20, pu_i21, pu_i22, pu_i23, pu_i30, pu_i33, pu_i34, pu_i35, pu_i36, pu_i40, pu_i41, pu_i42, pu_i45, pu_i46, pu_i48, pu_i49, pu_i50, pu_i57, pu_i59, pu_i60, pu_i62, pu_i66, pu_i86, pu_i94, pu_i99, pu_i100, pu_i103, pu_i106, pu_i108, pu_i109, pu_i111, pu_i113, pu_i119, pu_i126, pu_i999, pu_bnd, pu_nm, pu_gd, pu_bnd2, pu_inb, pu_at, pu_put, pu_us, pu_un, pu_Rs, pu_Rn, pu_upS, pu_RR, nI_add, pk_mul, pk_sub, nI_clamp, nI_eq, nI_leI, nI_ltI, pu_nI_mI, pu_mI_nI, pu_mm, pu_nn, pu_nI_le_mI, pu_nI_lt_mI, pu_mI_lt, pu_mI_le, pu_inW, pu_inO, if_pos, if_neg, ↓reduceIte, pu_bnd3]
    exact t
  · rw [o5]
    rcases c2 with q | ⟨b, b1, b2, b3, b4⟩
    · rw [q]
      simp (disch := omega) only [f_L_holds_b348, ↓pu_m1, pu_i0, pu_i1, pu_i2, pu_i3, pu_i4, pu_i5, pu_i6, pu_i7, pu_i8, pu_i9, pu_i10, pu_i11, pu_i12, pu_i13, pu_i14, pu_i15, pu_i16, pu_i17, pu_i18, pu_i19, pu_i20, pu_i21, pu_i22, pu_i23, pu_i30, pu_i33, pu_i34, pu_i35, pu_i36, pu_i40, pu_i41, pu_i42, pu_i45, pu_i46, pu_i48, pu_i49, pu_i50, pu_i57, pu_i59, pu_i60, pu_i62, pu_i66, pu_i86, pu_i94, pu_i99, pu_i100, pu_i103, pu_i106, pu_i108, pu_i109, pu_i111, pu_i113, pu_i119, pu_i126, pu_i999, pu_bnd, pu_nm, pu_gd, pu_bnd2, pu_inb, pu_at, pu_put, pu_us, pu_un, pu_Rs, pu_Rn, pu_upS, pu_RR, nI_add, pk_mul, pk_sub, nI_clamp, nI_eq, nI_leI, nI_ltI, pu_nI_mI, pu_mI_nI, pu_mm, pu_nn, pu_nI_le_mI, pu_nI_lt_mI, pu_mI_lt, pu_mI_le, pu_inW, pu_inO, if_pos, if_neg, ↓reduceIte, pu_bnd3]
      exact t
    · have w := tw b b1 b4
      rw [b3]
      simp (disch := omega) only [w, f_L_holds_b348, ↓pu_m1, pu_i0, pu_i1, pu_i2, pu_i3, pu_i4, pu_i5, pu_i6, pu_i7, pu_i8, pu_i9, pu_i10, pu_i11, pu_i12, pu_i13, pu_i14, pu_i15, pu_i16, pu_i17, pu_i18, pu_i19, pu_i20, pu_i21, pu_i22, pu_i23, pu_i30, pu_i33, pu_i34, pu_i35, pu_i36, pu_i40, pu_i41, pu_i42, pu_i45, pu_i46, pu_i48, pu_i49, pu_i50, pu_i57, pu_i59, pu_i60, pu_i62, pu_i66, pu_i86, pu_i94, pu_i99, pu_i100, pu_i103, pu_i106, pu_i108, pu_i109, pu_i111, pu_i113, pu_i119, pu_i126, pu_i999, pu_bnd, pu_nm, pu_gd, pu_bnd2, pu_inb, pu_at, pu_put, pu_us, pu_un, pu_Rs, pu_Rn, pu_upS, pu_RR, nI_add, pk_mul, pk_sub, nI_clamp, nI_eq, nI_leI, nI_ltI, pu_nI_mI, pu_mI_nI, pu_mm, pu_nn, pu_nI_le_mI, pu_nI_lt_mI, pu_mI_lt, pu_mI_le, pu_inW, pu_inO, if_pos, if_neg, ↓reduceIte, pu_bnd3]
      exact t
theorem h_265 (h : Ra B n l K) (hI : IvI n l K) (hB : 360 * B < 2 ^ 30) {i : Nat} (hi : i < n) (k : K92) (O : XO) (S : Nat → Int32) (x3 x4 y0 y1 : Int32) : f_L_holds_b265 k O K S (nI n) x3 x4 (nI 1) (nI i) (wc K i) (K 5 i) (gx K i) y0 y1 = k S (nI n) x3 x4 (y1 + y0) (nI 1) (nI (i + 1)) := by
  have hn := h.n10
  have t := h_324 h hI hB hi k O S x3 x4 (y1 + y0)
  obtain ⟨-, -, -, -, -, g5, -⟩ := e_guest h hi
  have wl := (e_wl h hi).2.2
  unfold f_L_holds_b265
  rcases wc_three h hi with ⟨q1, q2, q3⟩ | ⟨q1, b, b1, b2, b3, b4, b5⟩ | ⟨o, o1, o2, o3, o4, o5⟩
  · rcases wl with ⟨w1, w2⟩ | ⟨o, w1, w2, w3⟩
    · rw [q3] at w1
      exact absurd w1 (nI_nm (by omega))
    rw [q3] at w2
    have := pu_eqE (by omega) (by omega) w2
    subst this
    have g3 := (e_guest h hi).2.2.2.1
    obtain ⟨-, -, -, ⟨e3, -⟩, -⟩ := h.k hB hi
    rw [e3] at g3
    rw [w3] at g5
    rw [q3] at t ⊢
    simp (disch := omega) only [g5, g3, f_L_holds_b296, ↓pu_m1, pu_i0, pu_i1, pu_i2, pu_i3, pu_i4, pu_i5, pu_i6, pu_i7, pu_i8, pu_i9, pu_i10, pu_i11, pu_i12, pu_i13, pu_i14, pu_i15, pu_i16, pu_i17, pu_i18, pu_i19, pu_i20, pu_i21, pu_i22, pu_i23, pu_i30, pu_i33, pu_i34, pu_i35, pu_i36, pu_i40, pu_i41, pu_i42, pu_i45, pu_i46, pu_i48, pu_i49, pu_i50, pu_i57, pu_i59, pu_i60, pu_i62, pu_i66, pu_i86, pu_i94, pu_i99, pu_i100, pu_i103, pu_i106, pu_i108, pu_i109, pu_i111, pu_i113, pu_i119, pu_i126, pu_i999, pu_bnd, pu_nm, pu_gd, pu_bnd2, pu_inb, pu_at, pu_put, pu_us, pu_un, pu_Rs, pu_Rn, pu_upS, pu_RR, nI_add, pk_mul, pk_sub, nI_clamp, nI_eq, nI_leI, nI_ltI, pu_nI_mI, pu_mI_nI, pu_mm, pu_nn, pu_nI_le_mI, pu_nI_lt_mI, pu_mI_lt, pu_mI_le, pu_inW, pu_inO, if_pos, if_neg, ↓reduceIte, pu_bnd3]
    exact t
  · rcases wl with ⟨w1, w2⟩ | ⟨o, w1, w2, w3⟩
    · rw [w2] at g5
      rw [b5] at t ⊢
      simp (disch := omega) only [g5, f_L_holds_b296, ↓pu_m1, pu_i0, pu_i1, pu_i2, pu_i3, pu_i4, pu_i5, pu_i6, pu_i7, pu_i8, pu_i9, pu_i10, pu_i11, pu_i12, pu_i13, pu_i14, pu_i15, pu_i16, pu_i17, pu_i18, pu_i19, pu_i20, pu_i21, pu_i22, pu_i23, pu_i30, pu_i33, pu_i34, pu_i35, pu_i36, pu_i40, pu_i41, pu_i42, pu_i45, pu_i46, pu_i48, pu_i49, pu_i50, pu_i57, pu_i59, pu_i60, pu_i62, pu_i66, pu_i86, pu_i94, pu_i99, pu_i100, pu_i103, pu_i106, pu_i108, pu_i109, pu_i111, pu_i113, pu_i119, pu_i126, pu_i999, pu_bnd, pu_nm, pu_gd, pu_bnd2, pu_inb, pu_at, pu_put, pu_us, pu_un, pu_Rs, pu_Rn, pu_upS, pu_RR, nI_add, pk_mul, pk_sub, nI_clamp, nI_eq, nI_leI, nI_ltI, pu_nI_mI, pu_mI_nI, pu_mm, pu_nn, pu_nI_le_mI, pu_nI_lt_mI, pu_mI_lt, pu_mI_le, pu_inW, pu_inO, if_pos, if_neg, ↓reduceIte, pu_bnd3]
      exact t
    · rw [b5] at w2
      exact absurd w2.symm (nI_nm (by omega))
  · rcases wl with ⟨w1, w2⟩ | ⟨o', w1, w2, w3⟩
    · rw [o5] at w1
      exact absurd w1 (nI_nm (by omega))
    rw [o5] at w2
    have := pu_eqE (by omega) (by omega) w2
    subst this
    have g3 := (e_guest h o1).2.2.2.1
    have g10 := (e_guest h o1).2.2.2.2.2.2.2.2.2.2
    obtain ⟨-, -, -, ⟨e3, -⟩, -⟩ := h.k hB o1
    rw [e3] at g3
    rw [o4] at g10
    rw [w3] at g5
    rw [o5] at t ⊢
    simp (disch := omega) only [g5, g3, g10, f_L_holds_b296, ↓pu_m1, pu_i0, pu_i1, pu_i2, pu_i3, pu_i4, pu_i5, pu_i6, pu_i7, pu_i8, pu_i9, pu_i10, pu_i11, pu_i12, pu_i13, pu_i14, pu_i15, pu_i16, pu_i17, pu_i18, pu_i19, pu_i20, pu_i21, pu_i22, pu_i23, pu_i30, pu_i33, pu_i34, pu_i35, pu_i36, pu_i40, pu_i41, pu_i42, pu_i45, pu_i46, pu_i48, pu_i49, pu_i50, pu_i57, pu_i59, pu_i60, pu_i62, pu_i66, pu_i86, pu_i94, pu_i99, pu_i100, pu_i103, pu_i106, pu_i108, pu_i109, pu_i111, pu_i113, pu_i119, pu_i126, pu_i999, pu_bnd, pu_nm, pu_gd, pu_bnd2, pu_inb, pu_at, pu_put, pu_us, pu_un, pu_Rs, pu_Rn, pu_upS, pu_RR, nI_add, pk_mul, pk_sub, nI_clamp, nI_eq, nI_leI, nI_ltI, pu_nI_mI, pu_mI_nI, pu_mm, pu_nn, pu_nI_le_mI, pu_nI_lt_mI, pu_mI_lt, pu_mI_le, pu_inW, pu_inO, if_pos, if_neg, ↓reduceIte, pu_bnd3]
    exact t
theorem h_228 (h : Ra B n l K) (hI : IvI n l K) (hB : 360 * B < 2 ^ 30) {i : Nat} (hi : i < n) (k : K92) (O : XO) (S : Nat → Int32) (x3 x5 y0 y1 : Int32) : f_L_holds_b228 k O K S (nI n) x3 x5 (nI 1) (nI i) (wc K i) (K 5 i) (gx K i) y0 y1 = k S (nI n) x3 (y1 + y0) (x5 + (if alN K 0 (nk K 0 i) (nk K 11 0) < wlN K i then nI 0 else nI 1)) (nI 1) (nI (i + 1)) := by
  have hn := h.n10
  have t := h_265 h hI hB hi k O S x3 (y1 + y0)
  obtain ⟨g0, -, -, -, -, g5, -⟩ := e_guest h hi
  obtain ⟨⟨e0, b0⟩, -⟩ := h.k hB hi
  obtain ⟨⟨et, ht⟩, -⟩ := h.t hB
  have c0 := (e_count O h).1
  have lw := e_law h hB (show 0 < 3 by omega) b0 (show nk K 11 0 < 2 ^ 31 by omega)
  obtain ⟨-, ba⟩ := e_allowed h hB (show 0 < 3 by omega) b0 (show nk K 11 0 < 2 ^ 31 by omega)
  obtain ⟨-, bw, -⟩ := e_wl h hi
  rw [e0] at g0
  rw [et] at c0
  unfold f_L_holds_b228
  by_cases z : alN K 0 (nk K 0 i) (nk K 11 0) < wlN K i
  · rw [if_pos z]
    simp (disch := omega) only [g5, g0, c0, lw, ↓pu_m1, pu_i0, pu_i1, pu_i2, pu_i3, pu_i4, pu_i5, pu_i6, pu_i7, pu_i8, pu_i9, pu_i10, pu_i11, pu_i12, pu_i13, pu_i14, pu_i15, pu_i16, pu_i17, pu_i18, pu_i19, pu_i20, pu_i21, pu_i22, pu_i23, pu_i30, pu_i33, pu_i34, pu_i35, pu_i36, pu_i40, pu_i41, pu_i42, pu_i45, pu_i46, pu_i48, pu_i49, pu_i50, pu_i57, pu_i59, pu_i60, pu_i62, pu_i66, pu_i86, pu_i94, pu_i99, pu_i100, pu_i103, pu_i106, pu_i108, pu_i109, pu_i111, pu_i113, pu_i119, pu_i126, pu_i999, pu_bnd, pu_nm, pu_gd, pu_bnd2, pu_inb, pu_at, pu_put, pu_us, pu_un, pu_Rs, pu_Rn, pu_upS, pu_RR, nI_add, pk_mul, pk_sub, nI_clamp, nI_eq, nI_leI, nI_ltI, pu_nI_mI, pu_mI_nI, pu_mm, pu_nn, pu_nI_le_mI, pu_nI_lt_mI, pu_mI_lt, pu_mI_le, pu_inW, pu_inO, if_pos, if_neg, ↓reduceIte, pu_bnd3]
    exact t (nI 0) x5
  · rw [if_neg z]
    simp (disch := omega) only [g5, g0, c0, lw, ↓pu_m1, pu_i0, pu_i1, pu_i2, pu_i3, pu_i4, pu_i5, pu_i6, pu_i7, pu_i8, pu_i9, pu_i10, pu_i11, pu_i12, pu_i13, pu_i14, pu_i15, pu_i16, pu_i17, pu_i18, pu_i19, pu_i20, pu_i21, pu_i22, pu_i23, pu_i30, pu_i33, pu_i34, pu_i35, pu_i36, pu_i40, pu_i41, pu_i42, pu_i45, pu_i46, pu_i48, pu_i49, pu_i50, pu_i57, pu_i59, pu_i60, pu_i62, pu_i66, pu_i86, pu_i94, pu_i99, pu_i100, pu_i103, pu_i106, pu_i108, pu_i109, pu_i111, pu_i113, pu_i119, pu_i126, pu_i999, pu_bnd, pu_nm, pu_gd, pu_bnd2, pu_inb, pu_at, pu_put, pu_us, pu_un, pu_Rs, pu_Rn, pu_upS, pu_RR, nI_add, pk_mul, pk_sub, nI_clamp, nI_eq, nI_leI, nI_ltI, pu_nI_mI, pu_mI_nI, pu_mm, pu_nn, pu_nI_le_mI, pu_nI_lt_mI, pu_mI_lt, pu_mI_le, pu_inW, pu_inO, if_pos, if_neg, ↓reduceIte, pu_bnd3]
    exact t (nI 1) x5
/-- one guest -/
theorem h_step (h : Ra B n l K) (hI : IvI n l K) (hB : 360 * B < 2 ^ 30) {i F : Nat} (hi : i < n) (O : XO) (S : Nat → Int32) (x3 x4 x5 : Int32) : f_L_holds_l92 O K (F + 1) S (nI n) x3 x4 x5 (nI 1) (nI i) = f_L_holds_l92 O K F (upd (upd (upd (upd (upd S 0 (S 0 + K 1 i)) 1 (S 1 + K 2 i)) 2 (S 2 + K 3 i)) 3 (S 3 + (if K 6 i ≤ 0 then nI 0 else nI 1))) 4 (S 4 + K 7 i)) (nI n) (x3 ||| (K 7 i <<< (nI i &&& 31))) (x4 + (if gx K i = mI then nI 0 else nI 1)) (x5 + (if alN K 0 (nk K 0 i) (nk K 11 0) < wlN K i then nI 0 else nI 1)) (nI 1) (nI (i + 1)) := by
  have hn := h.n10
  obtain ⟨g0, g1, g2, g3, g4, g5, g6, g7, g8, g9, g10⟩ := e_guest h hi
  have t := h_228 h hI hB hi (f_L_holds_l92 O K F) O
  rw [show f_L_holds_l92 O K (F + 1) S (nI n) x3 x4 x5 (nI 1) (nI i) = _ from by unfold f_L_holds_l92; rfl]
  have fin : ∀ (S2 : Nat → Int32) (m : Int32), f_L_holds_b186 (f_L_holds_l92 O K F) O K S2 (nI n) x3 x4 x5 (nI 1) (nI i) (wc K i) (K 5 i) (gx K i) m (S2 3) (nI 3) = f_L_holds_l92 O K F (upd (upd S2 3 (S2 3 + m)) 4 (S2 4 + K 7 i)) (nI n) (x3 ||| (K 7 i <<< (nI i &&& 31))) (x4 + (if gx K i = mI then nI 0 else nI 1)) (x5 + (if alN K 0 (nk K 0 i) (nk K 11 0) < wlN K i then nI 0 else nI 1)) (nI 1) (nI (i + 1)) := by
    intro S2 m
    unfold f_L_holds_b186
    rcases (e_gate h.l hn hi).2.2 with ⟨q1, q2, q3⟩ | ⟨c, j, c1, c2, c3, c4, c5⟩
    · rw [q2] at t ⊢
      simp (disch := omega) only [g7, ↓pu_m1, pu_i0, pu_i1, pu_i2, pu_i3, pu_i4, pu_i5, pu_i6, pu_i7, pu_i8, pu_i9, pu_i10, pu_i11, pu_i12, pu_i13, pu_i14, pu_i15, pu_i16, pu_i17, pu_i18, pu_i19, pu_i20, pu_i21, pu_i22, pu_i23, pu_i30, pu_i33, pu_i34, pu_i35, pu_i36, pu_i40, pu_i41, pu_i42, pu_i45, pu_i46, pu_i48, pu_i49, pu_i50, pu_i57, pu_i59, pu_i60, pu_i62, pu_i66, pu_i86, pu_i94, pu_i99, pu_i100, pu_i103, pu_i106, pu_i108, pu_i109, pu_i111, pu_i113, pu_i119, pu_i126, pu_i999, pu_bnd, pu_nm, pu_gd, pu_bnd2, pu_inb, pu_at, pu_put, pu_us, pu_un, pu_Rs, pu_Rn, pu_upS, pu_RR, nI_add, pk_mul, pk_sub, nI_clamp, nI_eq, nI_leI, nI_ltI, pu_nI_mI, pu_mI_nI, pu_mm, pu_nn, pu_nI_le_mI, pu_nI_lt_mI, pu_mI_lt, pu_mI_le, pu_inW, pu_inO, if_pos, if_neg, ↓reduceIte, pu_bnd3]
      rw [t]
    · have lc := h.l.2.2.1 c c1
      rw [c4] at t ⊢
      simp (disch := omega) only [g7, ↓pu_m1, pu_i0, pu_i1, pu_i2, pu_i3, pu_i4, pu_i5, pu_i6, pu_i7, pu_i8, pu_i9, pu_i10, pu_i11, pu_i12, pu_i13, pu_i14, pu_i15, pu_i16, pu_i17, pu_i18, pu_i19, pu_i20, pu_i21, pu_i22, pu_i23, pu_i30, pu_i33, pu_i34, pu_i35, pu_i36, pu_i40, pu_i41, pu_i42, pu_i45, pu_i46, pu_i48, pu_i49, pu_i50, pu_i57, pu_i59, pu_i60, pu_i62, pu_i66, pu_i86, pu_i94, pu_i99, pu_i100, pu_i103, pu_i106, pu_i108, pu_i109, pu_i111, pu_i113, pu_i119, pu_i126, pu_i999, pu_bnd, pu_nm, pu_gd, pu_bnd2, pu_inb, pu_at, pu_put, pu_us, pu_un, pu_Rs, pu_Rn, pu_upS, pu_RR, nI_add, pk_mul, pk_sub, nI_clamp, nI_eq, nI_leI, nI_ltI, pu_nI_mI, pu_mI_nI, pu_mm, pu_nn, pu_nI_le_mI, pu_nI_lt_mI, pu_mI_lt, pu_mI_le, pu_inW, pu_inO, if_pos, if_neg, ↓reduceIte, pu_bnd3]
      rw [t]
  by_cases z : K 6 i ≤ 0
  · have z' : K 6 i ≤ nI 0 := z
    rw [if_pos z]
    simp (disch := omega) only [g4, g10, g8, g1, g2, g3, g6, z', ↓pu_m1, pu_i0, pu_i1, pu_i2, pu_i3, pu_i4, pu_i5, pu_i6, pu_i7, pu_i8, pu_i9, pu_i10, pu_i11, pu_i12, pu_i13, pu_i14, pu_i15, pu_i16, pu_i17, pu_i18, pu_i19, pu_i20, pu_i21, pu_i22, pu_i23, pu_i30, pu_i33, pu_i34, pu_i35, pu_i36, pu_i40, pu_i41, pu_i42, pu_i45, pu_i46, pu_i48, pu_i49, pu_i50, pu_i57, pu_i59, pu_i60, pu_i62, pu_i66, pu_i86, pu_i94, pu_i99, pu_i100, pu_i103, pu_i106, pu_i108, pu_i109, pu_i111, pu_i113, pu_i119, pu_i126, pu_i999, pu_bnd, pu_nm, pu_gd, pu_bnd2, pu_inb, pu_at, pu_put, pu_us, pu_un, pu_Rs, pu_Rn, pu_upS, pu_RR, nI_add, pk_mul, pk_sub, nI_clamp, nI_eq, nI_leI, nI_ltI, pu_nI_mI, pu_mI_nI, pu_mm, pu_nn, pu_nI_le_mI, pu_nI_lt_mI, pu_mI_lt, pu_mI_le, pu_inW, pu_inO, if_pos, if_neg, ↓reduceIte, pu_bnd3]
    have f := fin (upd (upd (upd S 0 (S 0 + K 1 i)) 1 (S 1 + K 2 i)) 2 (S 2 + K 3 i)) (nI 0)
    simp (disch := omega) only [pu_un] at f
    exact f
  · have z' : ¬ K 6 i ≤ nI 0 := z
    rw [if_neg z]
    simp (disch := omega) only [g4, g10, g8, g1, g2, g3, g6, z', ↓pu_m1, pu_i0, pu_i1, pu_i2, pu_i3, pu_i4, pu_i5, pu_i6, pu_i7, pu_i8, pu_i9, pu_i10, pu_i11, pu_i12, pu_i13, pu_i14, pu_i15, pu_i16, pu_i17, pu_i18, pu_i19, pu_i20, pu_i21, pu_i22, pu_i23, pu_i30, pu_i33, pu_i34, pu_i35, pu_i36, pu_i40, pu_i41, pu_i42, pu_i45, pu_i46, pu_i48, pu_i49, pu_i50, pu_i57, pu_i59, pu_i60, pu_i62, pu_i66, pu_i86, pu_i94, pu_i99, pu_i100, pu_i103, pu_i106, pu_i108, pu_i109, pu_i111, pu_i113, pu_i119, pu_i126, pu_i999, pu_bnd, pu_nm, pu_gd, pu_bnd2, pu_inb, pu_at, pu_put, pu_us, pu_un, pu_Rs, pu_Rn, pu_upS, pu_RR, nI_add, pk_mul, pk_sub, nI_clamp, nI_eq, nI_leI, nI_ltI, pu_nI_mI, pu_mI_nI, pu_mm, pu_nn, pu_nI_le_mI, pu_nI_lt_mI, pu_mI_lt, pu_mI_le, pu_inW, pu_inO, if_pos, if_neg, ↓reduceIte, pu_bnd3]
    have f := fin (upd (upd (upd S 0 (S 0 + K 1 i)) 1 (S 1 + K 2 i)) 2 (S 2 + K 3 i)) (nI 1)
    simp (disch := omega) only [pu_un] at f
    exact f
/-- the ranks, the sums, the share -/
theorem h_end (h : Ra B n l K) (hT : IvT n K) (hB : 360 * B < 2 ^ 30) (O : XO) (S : Nat → Int32) (s0 : S 0 = sI (K 1) n) (s1 : S 1 = sI (K 2) n) (s2 : S 2 = sI (K 3) n) (s3 : S 3 = mS K n) (s4 : S 4 = sI (K 7) n) : ∀ (k r F : Nat), r + k = 5 → k < F → f_L_holds_l529 O K F S (nI n) (bS K n) (nI 0) (nI (dN K n)) (nI 1) (nI r) = some (nI 1) := by
  have hn := h.n10
  obtain ⟨c0, c1, c2, c3, c4, c5, c6, c7, c8, c9, c10, c12, c13, c14, -⟩ := e_count O h
  obtain ⟨⟨et, ht⟩, ⟨ea0, ha0⟩, ⟨ea1, ha1⟩, ⟨ea2, ha2⟩, -⟩ := h.t hB
  rw [et] at c0
  have dl := dN_le K n
  have sh := e_decentX h hB
  intro k
  induction k with
  | zero =>
    intro r F hr hF
    obtain ⟨F, rfl⟩ : ∃ q, F = q + 1 := ⟨F - 1, by omega⟩
    rw [Nat.add_zero] at hr
    subst hr
    unfold f_L_holds_l529
    by_cases z : n = 0
    · subst z
      have e1 : shN K 0 = FP.dconst1 := rfl
      rw [e1] at sh
      simp (disch := omega) only [c14, s0, c4, s1, c6, s2, c8, s3, c13, s4, c2, sh, f_L_holds_b721, ↓pu_m1, pu_i0, pu_i1, pu_i2, pu_i3, pu_i4, pu_i5, pu_i6, pu_i7, pu_i8, pu_i9, pu_i10, pu_i11, pu_i12, pu_i13, pu_i14, pu_i15, pu_i16, pu_i17, pu_i18, pu_i19, pu_i20, pu_i21, pu_i22, pu_i23, pu_i30, pu_i33, pu_i34, pu_i35, pu_i36, pu_i40, pu_i41, pu_i42, pu_i45, pu_i46, pu_i48, pu_i49, pu_i50, pu_i57, pu_i59, pu_i60, pu_i62, pu_i66, pu_i86, pu_i94, pu_i99, pu_i100, pu_i103, pu_i106, pu_i108, pu_i109, pu_i111, pu_i113, pu_i119, pu_i126, pu_i999, pu_bnd, pu_nm, pu_gd, pu_bnd2, pu_inb, pu_at, pu_put, pu_us, pu_un, pu_Rs, pu_Rn, pu_upS, pu_RR, nI_add, pk_mul, pk_sub, nI_clamp, nI_eq, nI_leI, nI_ltI, pu_nI_mI, pu_mI_nI, pu_mm, pu_nn, pu_nI_le_mI, pu_nI_lt_mI, pu_mI_lt, pu_mI_le, pu_inW, pu_inO, if_pos, if_neg, ↓reduceIte, pu_bnd3]
      have q := q_one
      rw [if_pos (show Op.cmpValue (FP.dcmp FP.dconst1 FP.dconst1) .l = nI 0 from q)]
    · obtain ⟨b1, b2⟩ := q_n64 (n := n) (a := dN K n) (by omega) (by omega) dl
      have e1 : shN K n = FP.ddiv (FP.i2d (nI (dN K n))) (FP.i2d (nI n)) := by
        unfold shN
        rw [if_neg z]
      rw [e1] at sh
      simp (disch := omega) only [c14, s0, c4, s1, c6, s2, c8, s3, c13, s4, c2, sh, b1, f_L_holds_b721, ↓pu_m1, pu_i0, pu_i1, pu_i2, pu_i3, pu_i4, pu_i5, pu_i6, pu_i7, pu_i8, pu_i9, pu_i10, pu_i11, pu_i12, pu_i13, pu_i14, pu_i15, pu_i16, pu_i17, pu_i18, pu_i19, pu_i20, pu_i21, pu_i22, pu_i23, pu_i30, pu_i33, pu_i34, pu_i35, pu_i36, pu_i40, pu_i41, pu_i42, pu_i45, pu_i46, pu_i48, pu_i49, pu_i50, pu_i57, pu_i59, pu_i60, pu_i62, pu_i66, pu_i86, pu_i94, pu_i99, pu_i100, pu_i103, pu_i106, pu_i108, pu_i109, pu_i111, pu_i113, pu_i119, pu_i126, pu_i999, pu_bnd, pu_nm, pu_gd, pu_bnd2, pu_inb, pu_at, pu_put, pu_us, pu_un, pu_Rs, pu_Rn, pu_upS, pu_RR, nI_add, pk_mul, pk_sub, nI_clamp, nI_eq, nI_leI, nI_ltI, pu_nI_mI, pu_mI_nI, pu_mm, pu_nn, pu_nI_le_mI, pu_nI_lt_mI, pu_mI_lt, pu_mI_le, pu_inW, pu_inO, if_pos, if_neg, ↓reduceIte, pu_bnd3]
      rw [if_pos (show Op.cmpValue (FP.dcmp (FP.ddiv (FP.i2d (nI (dN K n))) (FP.i2d (nI n))) (FP.ddiv (FP.i2d (nI (dN K n))) (FP.i2d (nI n)))) .l = nI 0 from b2)]
  | succ k ih =>
    intro r F hr hF
    obtain ⟨F, rfl⟩ : ∃ q, F = q + 1 := ⟨F - 1, by omega⟩
    have q := ih (r + 1) F (by omega) (by omega)
    have l0 := e_law h hB (show 0 < 3 by omega) (show r ≤ 4 by omega) (show nk K 11 0 < 2 ^ 31 by omega)
    have l1 := e_law h hB (show 1 < 3 by omega) (show r ≤ 4 by omega) (show nk K 11 0 < 2 ^ 31 by omega)
    have l2 := e_law h hB (show 2 < 3 by omega) (show r ≤ 4 by omega) (show nk K 11 0 < 2 ^ 31 by omega)
    have l3 := e_law h hB (show 2 < 3 by omega) (show r ≤ 4 by omega) (show nk K 11 0 + 3 < 2 ^ 31 by omega)
    have hm : nk K 10 1 * r ≤ 10 * 4 := Nat.mul_le_mul ha1 (by omega)
    have a0 : alN K 0 r (nk K 11 0) = nk K 10 0 + nk K 10 1 * r := rfl
    have a1 : alN K 1 r (nk K 11 0) = nk K 10 0 + nk K 10 1 * r - 2 := rfl
    have a2 : alN K 2 r (nk K 11 0) = nk K 10 0 + nk K 10 1 * r + nk K 11 0 % 3 * nk K 10 2 := rfl
    have a3 : alN K 2 r (nk K 11 0 + 3) = nk K 10 0 + nk K 10 1 * r + nk K 11 0 % 3 * nk K 10 2 := by
      show nk K 10 0 + nk K 10 1 * r + (nk K 11 0 + 3) % 3 * nk K 10 2 = _
      rw [Nat.add_mod_right]
    have hm2 : nk K 11 0 % 3 * nk K 10 2 ≤ 2 * 9 := Nat.mul_le_mul (by omega) ha2
    rw [a0] at l0
    rw [a1] at l1
    rw [a2] at l2
    rw [a3] at l3
    unfold f_L_holds_l529
    simp (disch := omega) only [c0, l0, l1, l2, l3, f_L_holds_b617, ↓pu_m1, pu_i0, pu_i1, pu_i2, pu_i3, pu_i4, pu_i5, pu_i6, pu_i7, pu_i8, pu_i9, pu_i10, pu_i11, pu_i12, pu_i13, pu_i14, pu_i15, pu_i16, pu_i17, pu_i18, pu_i19, pu_i20, pu_i21, pu_i22, pu_i23, pu_i30, pu_i33, pu_i34, pu_i35, pu_i36, pu_i40, pu_i41, pu_i42, pu_i45, pu_i46, pu_i48, pu_i49, pu_i50, pu_i57, pu_i59, pu_i60, pu_i62, pu_i66, pu_i86, pu_i94, pu_i99, pu_i100, pu_i103, pu_i106, pu_i108, pu_i109, pu_i111, pu_i113, pu_i119, pu_i126, pu_i999, pu_bnd, pu_nm, pu_gd, pu_bnd2, pu_inb, pu_at, pu_put, pu_us, pu_un, pu_Rs, pu_Rn, pu_upS, pu_RR, nI_add, pk_mul, pk_sub, nI_clamp, nI_eq, nI_leI, nI_ltI, pu_nI_mI, pu_mI_nI, pu_mm, pu_nn, pu_nI_le_mI, pu_nI_lt_mI, pu_mI_lt, pu_mI_le, pu_inW, pu_inO, if_pos, if_neg, ↓reduceIte, pu_bnd3]
    exact q
theorem h_lines (h : Ra B n l K) (hT : IvT n K) (hB : 360 * B < 2 ^ 30) (O : XO) (S : Nat → Int32) (s0 : S 0 = sI (K 1) n) (s1 : S 1 = sI (K 2) n) (s2 : S 2 = sI (K 3) n) (s3 : S 3 = mS K n) (s4 : S 4 = sI (K 7) n) : f_L_holds_l503 O K fuelN S (nI n) (bS K n) (nI (l 0 + l 1 + l 2)) (nI (dN K n)) (nI 1) (nI 0) = some (nI 1) := by
  have st : ∀ (F c : Nat) (x : Int32), c < 3 → f_L_holds_l503 O K (F + 1) S (nI n) (bS K n) x (nI (dN K n)) (nI 1) (nI c) = f_L_holds_l503 O K F S (nI n) (bS K n) (x - nI (l c)) (nI (dN K n)) (nI 1) (nI (c + 1)) := by
    intro F c x hc
    have ln := e_line h hc
    rw [show f_L_holds_l503 O K (F + 1) S (nI n) (bS K n) x (nI (dN K n)) (nI 1) (nI c) = _ from by unfold f_L_holds_l503; rfl]
    simp (disch := omega) only [ln, ↓pu_m1, pu_i0, pu_i1, pu_i2, pu_i3, pu_i4, pu_i5, pu_i6, pu_i7, pu_i8, pu_i9, pu_i10, pu_i11, pu_i12, pu_i13, pu_i14, pu_i15, pu_i16, pu_i17, pu_i18, pu_i19, pu_i20, pu_i21, pu_i22, pu_i23, pu_i30, pu_i33, pu_i34, pu_i35, pu_i36, pu_i40, pu_i41, pu_i42, pu_i45, pu_i46, pu_i48, pu_i49, pu_i50, pu_i57, pu_i59, pu_i60, pu_i62, pu_i66, pu_i86, pu_i94, pu_i99, pu_i100, pu_i103, pu_i106, pu_i108, pu_i109, pu_i111, pu_i113, pu_i119, pu_i126, pu_i999, pu_bnd, pu_nm, pu_gd, pu_bnd2, pu_inb, pu_at, pu_put, pu_us, pu_un, pu_Rs, pu_Rn, pu_upS, pu_RR, nI_add, pk_mul, pk_sub, nI_clamp, nI_eq, nI_leI, nI_ltI, pu_nI_mI, pu_mI_nI, pu_mm, pu_nn, pu_nI_le_mI, pu_nI_lt_mI, pu_mI_lt, pu_mI_le, pu_inW, pu_inO, if_pos, if_neg, ↓reduceIte, pu_bnd3]
  have en : ∀ (F : Nat) (x : Int32), f_L_holds_l503 O K (F + 1) S (nI n) (bS K n) x (nI (dN K n)) (nI 1) (nI 3) = f_L_holds_l529 O K fuelN S (nI n) (bS K n) x (nI (dN K n)) (nI 1) (nI 0) := by
    intro F x
    rw [show f_L_holds_l503 O K (F + 1) S (nI n) (bS K n) x (nI (dN K n)) (nI 1) (nI 3) = _ from by unfold f_L_holds_l503; rfl]
    simp (disch := omega) only [↓pu_m1, pu_i0, pu_i1, pu_i2, pu_i3, pu_i4, pu_i5, pu_i6, pu_i7, pu_i8, pu_i9, pu_i10, pu_i11, pu_i12, pu_i13, pu_i14, pu_i15, pu_i16, pu_i17, pu_i18, pu_i19, pu_i20, pu_i21, pu_i22, pu_i23, pu_i30, pu_i33, pu_i34, pu_i35, pu_i36, pu_i40, pu_i41, pu_i42, pu_i45, pu_i46, pu_i48, pu_i49, pu_i50, pu_i57, pu_i59, pu_i60, pu_i62, pu_i66, pu_i86, pu_i94, pu_i99, pu_i100, pu_i103, pu_i106, pu_i108, pu_i109, pu_i111, pu_i113, pu_i119, pu_i126, pu_i999, pu_bnd, pu_nm, pu_gd, pu_bnd2, pu_inb, pu_at, pu_put, pu_us, pu_un, pu_Rs, pu_Rn, pu_upS, pu_RR, nI_add, pk_mul, pk_sub, nI_clamp, nI_eq, nI_leI, nI_ltI, pu_nI_mI, pu_mI_nI, pu_mm, pu_nn, pu_nI_le_mI, pu_nI_lt_mI, pu_mI_lt, pu_mI_le, pu_inW, pu_inO, if_pos, if_neg, ↓reduceIte, pu_bnd3]
  have u := (st 999 0 (nI (l 0 + l 1 + l 2)) (by omega)).trans ((st 998 1 _ (by omega)).trans ((st 997 2 _ (by omega)).trans (en 996 _)))
  rw [pk_sub (by omega), pk_sub (by omega), pk_sub (by omega), show l 0 + l 1 + l 2 - l 0 - l 1 - l 2 = 0 from by omega] at u
  exact u.trans (h_end h hT hB O S s0 s1 s2 s3 s4 5 0 fuelN (by omega) (by unfold fuelN; omega))
theorem h_all (h : Inv B n l K) (hB : 360 * B < 2 ^ 30) (O : XO) : ∀ (k i F : Nat) (S : Nat → Int32), i + k = n → k < F → S 0 = sI (K 1) i → S 1 = sI (K 2) i → S 2 = sI (K 3) i → S 3 = mS K i → S 4 = sI (K 7) i → f_L_holds_l92 O K F S (nI n) (bS K i) (nI (lS K i)) (nI (dN K i)) (nI 1) (nI i) = some (nI 1) := by
  obtain ⟨hR, hT, hI⟩ := h
  have hn := hR.n10
  intro k
  induction k with
  | zero =>
    intro i F S hi hF s0 s1 s2 s3 s4
    obtain ⟨F, rfl⟩ : ∃ q, F = q + 1 := ⟨F - 1, by omega⟩
    rw [Nat.add_zero] at hi
    subst hi
    have e := h_lines hR hT hB O S s0 s1 s2 s3 s4
    rw [← lS_eq hR.l hn] at e
    unfold f_L_holds_l92
    simp (disch := omega) only [↓pu_m1, pu_i0, pu_i1, pu_i2, pu_i3, pu_i4, pu_i5, pu_i6, pu_i7, pu_i8, pu_i9, pu_i10, pu_i11, pu_i12, pu_i13, pu_i14, pu_i15, pu_i16, pu_i17, pu_i18, pu_i19, pu_i20, pu_i21, pu_i22, pu_i23, pu_i30, pu_i33, pu_i34, pu_i35, pu_i36, pu_i40, pu_i41, pu_i42, pu_i45, pu_i46, pu_i48, pu_i49, pu_i50, pu_i57, pu_i59, pu_i60, pu_i62, pu_i66, pu_i86, pu_i94, pu_i99, pu_i100, pu_i103, pu_i106, pu_i108, pu_i109, pu_i111, pu_i113, pu_i119, pu_i126, pu_i999, pu_bnd, pu_nm, pu_gd, pu_bnd2, pu_inb, pu_at, pu_put, pu_us, pu_un, pu_Rs, pu_Rn, pu_upS, pu_RR, nI_add, pk_mul, pk_sub, nI_clamp, nI_eq, nI_leI, nI_ltI, pu_nI_mI, pu_mI_nI, pu_mm, pu_nn, pu_nI_le_mI, pu_nI_lt_mI, pu_mI_lt, pu_mI_le, pu_inW, pu_inO, if_pos, if_neg, ↓reduceIte, pu_bnd3]
    exact e
  | succ k ih =>
    intro i F S hi hF s0 s1 s2 s3 s4
    obtain ⟨F, rfl⟩ : ∃ q, F = q + 1 := ⟨F - 1, by omega⟩
    rw [h_step hR hI hB (show i < n by omega)]
    have q := ih (i + 1) F (upd (upd (upd (upd (upd S 0 (S 0 + K 1 i)) 1 (S 1 + K 2 i)) 2 (S 2 + K 3 i)) 3 (S 3 + (if K 6 i ≤ 0 then nI 0 else nI 1))) 4 (S 4 + K 7 i)) (by omega) (by omega) (by simp (disch := omega) only [pu_us, pu_un, s0, sI]) (by simp (disch := omega) only [pu_us, pu_un, s1, sI]) (by simp (disch := omega) only [pu_us, pu_un, s2, sI]) (by simp (disch := omega) only [pu_us, pu_un, s3, mS]) (by simp (disch := omega) only [pu_us, pu_un, s4, sI])
    have e1 : nI (lS K i) + (if gx K i = mI then nI 0 else nI 1) = nI (lS K (i + 1)) := by
      unfold lS
      rw [sN]
      by_cases z : gx K i = mI
      · rw [if_pos z, if_pos z, nI_add]
      · rw [if_neg z, if_neg z, nI_add]
    have e2 : nI (dN K i) + (if alN K 0 (nk K 0 i) (nk K 11 0) < wlN K i then nI 0 else nI 1) = nI (dN K (i + 1)) := by
      rw [dN]
      by_cases z : alN K 0 (nk K 0 i) (nk K 11 0) < wlN K i
      · rw [if_pos z, if_pos z, nI_add]
      · rw [if_neg z, if_neg z, nI_add]
    rw [e1, e2]
    exact q
theorem p_holds (h : Inv B n l K) (hB : 360 * B < 2 ^ 30) (O : XO) : f_L_holds O K = some (nI 1) := by
  have hn := h.1.n10
  obtain ⟨t1, t2, t3⟩ := h.2.1
  obtain ⟨c0, c1, c2, c3, c4, c5, c6, c7, c8, c9, c10, c12, -⟩ := e_count O h.1
  have q := h_all h hB O n 0 fuelN (fun _ => 0) (by omega) (by unfold fuelN; omega) rfl rfl rfl rfl rfl
  rw [t1] at c7
  rw [t2] at c10
  rw [← t3] at c12
  unfold f_L_holds
  simp (disch := omega) only [c1, c7, c4, c5, c10, c8, c9, c12, f_L_holds_b87, ↓pu_m1, pu_i0, pu_i1, pu_i2, pu_i3, pu_i4, pu_i5, pu_i6, pu_i7, pu_i8, pu_i9, pu_i10, pu_i11, pu_i12, pu_i13, pu_i14, pu_i15, pu_i16, pu_i17, pu_i18, pu_i19, pu_i20, pu_i21, pu_i22, pu_i23, pu_i30, pu_i33, pu_i34, pu_i35, pu_i36, pu_i40, pu_i41, pu_i42, pu_i45, pu_i46, pu_i48, pu_i49, pu_i50, pu_i57, pu_i59, pu_i60, pu_i62, pu_i66, pu_i86, pu_i94, pu_i99, pu_i100, pu_i103, pu_i106, pu_i108, pu_i109, pu_i111, pu_i113, pu_i119, pu_i126, pu_i999, pu_bnd, pu_nm, pu_gd, pu_bnd2, pu_inb, pu_at, pu_put, pu_us, pu_un, pu_Rs, pu_Rn, pu_upS, pu_RR, nI_add, pk_mul, pk_sub, nI_clamp, nI_eq, nI_leI, nI_ltI, pu_nI_mI, pu_mI_nI, pu_mm, pu_nn, pu_nI_le_mI, pu_nI_lt_mI, pu_mI_lt, pu_mI_le, pu_inW, pu_inO, if_pos, if_neg, ↓reduceIte, pu_bnd3]
  exact q
end HO
