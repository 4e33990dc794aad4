/-! the pure part: what a gate would bring, the best gate, nights, shares -/
theorem rel_u2 {B n : Nat} {l : Nat → Nat} {K : RK} {M : MS} (h : Rel B n l K (M.1 0)) (f : Nat → Int32) : Rel B n l K ((upM M 2 f).1 0) := by
  rw [pu_M1, pu_Rn (by omega)]
  exact h
theorem t_bring {B n : Nat} {l : Nat → Nat} {K : RK} {M : MS} (h : Rel B n l K (M.1 0)) (hB : 360 * B < 2 ^ 30) {g c k : Nat} (hg : g < n) (hc : c < 3) (hk : k < 4) : ∃ (r : Int32) (f : Nat → Int32), f_X0_gateNumber K (nI g) (nI c) (nI k) = some r ∧ f_X6_wouldBring M (nI g) (nI c) (nI k) = some (r, upM M 2 f) ∧ (k = 0 → f_X0_ellsTooMuch K (nI g) (nI c) = some r ∧ ∃ e : Nat, e ≤ 40 ∧ r = nI e) := by
  have hn := h.n10
  obtain ⟨e, s3, p, d, x, f, he, hs, hp, hd, hf, e1, e2, e3, e4, c1, c2, c3, c4, j, -⟩ := t_judge h hB hg hc
  obtain ⟨br, hbr⟩ : ∃ br : Nat → Int32, br = upd (upd (upd (upd (upd (M.1 2) 0 (nI e)) 1 (nI (e * s3))) 2 (nI f)) 3 (nI d + nI (e * s3 - p) - ha K g (e * s3 - p))) 4 (ha K g (e * s3 - p)) := ⟨_, rfl⟩
  rw [← hbr] at j
  have r0 : br 0 = nI e := by
    rw [hbr]
    simp (disch := omega) only [pu_us, pu_un]
  have r1 : br 1 = nI (e * s3) := by
    rw [hbr]
    simp (disch := omega) only [pu_us, pu_un]
  have r2 : br 2 = nI f := by
    rw [hbr]
    simp (disch := omega) only [pu_us, pu_un]
  have r3 : br 3 = nI d + nI (e * s3 - p) - ha K g (e * s3 - p) := by
    rw [hbr]
    simp (disch := omega) only [pu_us, pu_un]
  unfold f_X0_gateNumber f_X6_wouldBring
  rw [c1, j]
  rcases (show k = 0 ∨ k = 1 ∨ k = 2 ∨ k = 3 by omega) with q | q | q | q <;> subst q
  · exact ⟨nI e, br, by simp (disch := omega) only [e3, c3, ↓pu_m1, pu_i0, pu_i1, pu_i2, pu_i3, pu_i4, pu_i5, pu_i6, pu_i7, pu_i8, pu_i9, pu_i10, pu_i11, pu_i12, pu_i13, pu_i14, pu_i15, pu_i16, pu_i17, pu_i18, pu_i19, pu_i20, pu_i21, pu_i22, pu_i30, pu_i33, pu_i34, pu_i36, pu_i40, pu_i42, pu_i48, pu_i49, pu_i50, pu_i57, pu_i59, pu_i60, pu_i62, pu_i86, pu_i94, pu_i99, pu_i103, pu_i106, pu_i108, pu_i109, pu_i111, pu_i113, pu_i119, pu_i126, pu_i999, pu_bnd, pu_nm, pu_gd, pu_bnd2, pu_bxl, pu_bxr, pu_inb, pu_at, pu_put, pu_us, pu_un, pu_Rs, pu_Rn, pu_upS, pu_M1, pu_M2, pu_MS, pu_MM, pu_RR, pu_H1, pu_H2, nI_add, pk_mul, pk_sub, nI_clamp, nI_eq, nI_leI, nI_ltI, pu_in, pu_of, pu_lay, pu_ll, pu_il, pu_h0, pu_h1, pu_h2, pu_nI_mI, pu_mI_nI, pu_mm, pu_nn, pu_nI_le_mI, pu_nI_lt_mI, pu_mI_lt, pu_mI_le, pu_inW, pu_inO, if_pos, if_neg, ↓reduceIte], by simp (disch := omega) only [r0, ↓pu_m1, pu_i0, pu_i1, pu_i2, pu_i3, pu_i4, pu_i5, pu_i6, pu_i7, pu_i8, pu_i9, pu_i10, pu_i11, pu_i12, pu_i13, pu_i14, pu_i15, pu_i16, pu_i17, pu_i18, pu_i19, pu_i20, pu_i21, pu_i22, pu_i30, pu_i33, pu_i34, pu_i36, pu_i40, pu_i42, pu_i48, pu_i49, pu_i50, pu_i57, pu_i59, pu_i60, pu_i62, pu_i86, pu_i94, pu_i99, pu_i103, pu_i106, pu_i108, pu_i109, pu_i111, pu_i113, pu_i119, pu_i126, pu_i999, pu_bnd, pu_nm, pu_gd, pu_bnd2, pu_bxl, pu_bxr, pu_inb, pu_at, pu_put, pu_us, pu_un, pu_Rs, pu_Rn, pu_upS, pu_M1, pu_M2, pu_MS, pu_MM, pu_RR, pu_H1, pu_H2, nI_add, pk_mul, pk_sub, nI_clamp, nI_eq, nI_leI, nI_ltI, pu_in, pu_of, pu_lay, pu_ll, pu_il, pu_h0, pu_h1, pu_h2, pu_nI_mI, pu_mI_nI, pu_mm, pu_nn, pu_nI_le_mI, pu_nI_lt_mI, pu_mI_lt, pu_mI_le, pu_inW, pu_inO, if_pos, if_neg, ↓reduceIte], fun _ => ⟨rfl, e, he, rfl⟩⟩
  · exact ⟨nI (e * s3), br, by simp (disch := omega) only [e3, c3, ↓pu_m1, pu_i0, pu_i1, pu_i2, pu_i3, pu_i4, pu_i5, pu_i6, pu_i7, pu_i8, pu_i9, pu_i10, pu_i11, pu_i12, pu_i13, pu_i14, pu_i15, pu_i16, pu_i17, pu_i18, pu_i19, pu_i20, pu_i21, pu_i22, pu_i30, pu_i33, pu_i34, pu_i36, pu_i40, pu_i42, pu_i48, pu_i49, pu_i50, pu_i57, pu_i59, pu_i60, pu_i62, pu_i86, pu_i94, pu_i99, pu_i103, pu_i106, pu_i108, pu_i109, pu_i111, pu_i113, pu_i119, pu_i126, pu_i999, pu_bnd, pu_nm, pu_gd, pu_bnd2, pu_bxl, pu_bxr, pu_inb, pu_at, pu_put, pu_us, pu_un, pu_Rs, pu_Rn, pu_upS, pu_M1, pu_M2, pu_MS, pu_MM, pu_RR, pu_H1, pu_H2, nI_add, pk_mul, pk_sub, nI_clamp, nI_eq, nI_leI, nI_ltI, pu_in, pu_of, pu_lay, pu_ll, pu_il, pu_h0, pu_h1, pu_h2, pu_nI_mI, pu_mI_nI, pu_mm, pu_nn, pu_nI_le_mI, pu_nI_lt_mI, pu_mI_lt, pu_mI_le, pu_inW, pu_inO, if_pos, if_neg, ↓reduceIte], by simp (disch := omega) only [r1, ↓pu_m1, pu_i0, pu_i1, pu_i2, pu_i3, pu_i4, pu_i5, pu_i6, pu_i7, pu_i8, pu_i9, pu_i10, pu_i11, pu_i12, pu_i13, pu_i14, pu_i15, pu_i16, pu_i17, pu_i18, pu_i19, pu_i20, pu_i21, pu_i22, pu_i30, pu_i33, pu_i34, pu_i36, pu_i40, pu_i42, pu_i48, pu_i49, pu_i50, pu_i57, pu_i59, pu_i60, pu_i62, pu_i86, pu_i94, pu_i99, pu_i103, pu_i106, pu_i108, pu_i109, pu_i111, pu_i113, pu_i119, pu_i126, pu_i999, pu_bnd, pu_nm, pu_gd, pu_bnd2, pu_bxl, pu_bxr, pu_inb, pu_at, pu_put, pu_us, pu_un, pu_Rs, pu_Rn, pu_upS, pu_M1, pu_M2, pu_MS, pu_MM, pu_RR, pu_H1, pu_H2, nI_add, pk_mul, pk_sub, nI_clamp, nI_eq, nI_leI, nI_ltI, pu_in, pu_of, pu_lay, pu_ll, pu_il, pu_h0, pu_h1, pu_h2, pu_nI_mI, pu_mI_nI, pu_mm, pu_nn, pu_nI_le_mI, pu_nI_lt_mI, pu_mI_lt, pu_mI_le, pu_inW, pu_inO, if_pos, if_neg, ↓reduceIte], fun q => absurd q (by omega)⟩
  · exact ⟨nI f, br, by simp (disch := omega) only [e3, c3, c2, ↓pu_m1, pu_i0, pu_i1, pu_i2, pu_i3, pu_i4, pu_i5, pu_i6, pu_i7, pu_i8, pu_i9, pu_i10, pu_i11, pu_i12, pu_i13, pu_i14, pu_i15, pu_i16, pu_i17, pu_i18, pu_i19, pu_i20, pu_i21, pu_i22, pu_i30, pu_i33, pu_i34, pu_i36, pu_i40, pu_i42, pu_i48, pu_i49, pu_i50, pu_i57, pu_i59, pu_i60, pu_i62, pu_i86, pu_i94, pu_i99, pu_i103, pu_i106, pu_i108, pu_i109, pu_i111, pu_i113, pu_i119, pu_i126, pu_i999, pu_bnd, pu_nm, pu_gd, pu_bnd2, pu_bxl, pu_bxr, pu_inb, pu_at, pu_put, pu_us, pu_un, pu_Rs, pu_Rn, pu_upS, pu_M1, pu_M2, pu_MS, pu_MM, pu_RR, pu_H1, pu_H2, nI_add, pk_mul, pk_sub, nI_clamp, nI_eq, nI_leI, nI_ltI, pu_in, pu_of, pu_lay, pu_ll, pu_il, pu_h0, pu_h1, pu_h2, pu_nI_mI, pu_mI_nI, pu_mm, pu_nn, pu_nI_le_mI, pu_nI_lt_mI, pu_mI_lt, pu_mI_le, pu_inW, pu_inO, if_pos, if_neg, ↓reduceIte], by simp (disch := omega) only [r2, ↓pu_m1, pu_i0, pu_i1, pu_i2, pu_i3, pu_i4, pu_i5, pu_i6, pu_i7, pu_i8, pu_i9, pu_i10, pu_i11, pu_i12, pu_i13, pu_i14, pu_i15, pu_i16, pu_i17, pu_i18, pu_i19, pu_i20, pu_i21, pu_i22, pu_i30, pu_i33, pu_i34, pu_i36, pu_i40, pu_i42, pu_i48, pu_i49, pu_i50, pu_i57, pu_i59, pu_i60, pu_i62, pu_i86, pu_i94, pu_i99, pu_i103, pu_i106, pu_i108, pu_i109, pu_i111, pu_i113, pu_i119, pu_i126, pu_i999, pu_bnd, pu_nm, pu_gd, pu_bnd2, pu_bxl, pu_bxr, pu_inb, pu_at, pu_put, pu_us, pu_un, pu_Rs, pu_Rn, pu_upS, pu_M1, pu_M2, pu_MS, pu_MM, pu_RR, pu_H1, pu_H2, nI_add, pk_mul, pk_sub, nI_clamp, nI_eq, nI_leI, nI_ltI, pu_in, pu_of, pu_lay, pu_ll, pu_il, pu_h0, pu_h1, pu_h2, pu_nI_mI, pu_mI_nI, pu_mm, pu_nn, pu_nI_le_mI, pu_nI_lt_mI, pu_mI_lt, pu_mI_le, pu_inW, pu_inO, if_pos, if_neg, ↓reduceIte], fun q => absurd q (by omega)⟩
  · refine ⟨nI d + nI (e * s3 - p) - ha K g (e * s3 - p), br, ?_, ?_, fun q => absurd q (by omega)⟩
    · simp (disch := omega) only [e3, c3, e2, c4, ↓pu_m1, pu_i0, pu_i1, pu_i2, pu_i3, pu_i4, pu_i5, pu_i6, pu_i7, pu_i8, pu_i9, pu_i10, pu_i11, pu_i12, pu_i13, pu_i14, pu_i15, pu_i16, pu_i17, pu_i18, pu_i19, pu_i20, pu_i21, pu_i22, pu_i30, pu_i33, pu_i34, pu_i36, pu_i40, pu_i42, pu_i48, pu_i49, pu_i50, pu_i57, pu_i59, pu_i60, pu_i62, pu_i86, pu_i94, pu_i99, pu_i103, pu_i106, pu_i108, pu_i109, pu_i111, pu_i113, pu_i119, pu_i126, pu_i999, pu_bnd, pu_nm, pu_gd, pu_bnd2, pu_bxl, pu_bxr, pu_inb, pu_at, pu_put, pu_us, pu_un, pu_Rs, pu_Rn, pu_upS, pu_M1, pu_M2, pu_MS, pu_MM, pu_RR, pu_H1, pu_H2, nI_add, pk_mul, pk_sub, nI_clamp, nI_eq, nI_leI, nI_ltI, pu_in, pu_of, pu_lay, pu_ll, pu_il, pu_h0, pu_h1, pu_h2, pu_nI_mI, pu_mI_nI, pu_mm, pu_nn, pu_nI_le_mI, pu_nI_lt_mI, pu_mI_lt, pu_mI_le, pu_inW, pu_inO, if_pos, if_neg, ↓reduceIte]
    · simp (disch := omega) only [r3, ↓pu_m1, pu_i0, pu_i1, pu_i2, pu_i3, pu_i4, pu_i5, pu_i6, pu_i7, pu_i8, pu_i9, pu_i10, pu_i11, pu_i12, pu_i13, pu_i14, pu_i15, pu_i16, pu_i17, pu_i18, pu_i19, pu_i20, pu_i21, pu_i22, pu_i30, pu_i33, pu_i34, pu_i36, pu_i40, pu_i42, pu_i48, pu_i49, pu_i50, pu_i57, pu_i59, pu_i60, pu_i62, pu_i86, pu_i94, pu_i99, pu_i103, pu_i106, pu_i108, pu_i109, pu_i111, pu_i113, pu_i119, pu_i126, pu_i999, pu_bnd, pu_nm, pu_gd, pu_bnd2, pu_bxl, pu_bxr, pu_inb, pu_at, pu_put, pu_us, pu_un, pu_Rs, pu_Rn, pu_upS, pu_M1, pu_M2, pu_MS, pu_MM, pu_RR, pu_H1, pu_H2, nI_add, pk_mul, pk_sub, nI_clamp, nI_eq, nI_leI, nI_ltI, pu_in, pu_of, pu_lay, pu_ll, pu_il, pu_h0, pu_h1, pu_h2, pu_nI_mI, pu_mI_nI, pu_mm, pu_nn, pu_nI_le_mI, pu_nI_lt_mI, pu_mI_lt, pu_mI_le, pu_inW, pu_inO, if_pos, if_neg, ↓reduceIte]
theorem t_ells {B n : Nat} {l : Nat → Nat} {K : RK} {M : MS} (h : Rel B n l K (M.1 0)) (hB : 360 * B < 2 ^ 30) {g : Nat} (hg : g < n) : ∃ E : Nat → Nat, ∀ c, c < 3 → E c ≤ 40 ∧ f_X0_ellsTooMuch K (nI g) (nI c) = some (nI (E c)) := by
  obtain ⟨r0, f0, q0, p0, u0⟩ := t_bring h hB hg (show 0 < 3 by omega) (show 0 < 4 by omega)
  obtain ⟨r1, f1, q1, p1, u1⟩ := t_bring h hB hg (show 1 < 3 by omega) (show 0 < 4 by omega)
  obtain ⟨r2, f2, q2, p2, u2⟩ := t_bring h hB hg (show 2 < 3 by omega) (show 0 < 4 by omega)
  obtain ⟨v0, e0, h0, y0⟩ := u0 rfl
  obtain ⟨v1, e1, h1, y1⟩ := u1 rfl
  obtain ⟨v2, e2, h2, y2⟩ := u2 rfl
  refine ⟨fun c => if c = 0 then e0 else if c = 1 then e1 else e2, ?_⟩
  intro c hc
  rcases (show c = 0 ∨ c = 1 ∨ c = 2 by omega) with e | e | e <;> subst e
  · exact ⟨h0, by rw [v0, y0]; rfl⟩
  · exact ⟨h1, by rw [v1, y1]; rfl⟩
  · exact ⟨h2, by rw [v2, y2]; rfl⟩
theorem t_would0 {B n : Nat} {l : Nat → Nat} {K : RK} {M : MS} (h : Rel B n l K (M.1 0)) (hB : 360 * B < 2 ^ 30) {g c e : Nat} (hg : g < n) (hc : c < 3) (he : f_X0_ellsTooMuch K (nI g) (nI c) = some (nI e)) : ∃ f : Nat → Int32, f_X6_wouldBring M (nI g) (nI c) (nI 0) = some (nI e, upM M 2 f) := by
  obtain ⟨r, f, q1, q2, q3⟩ := t_bring h hB hg hc (show 0 < 4 by omega)
  obtain ⟨v, -⟩ := q3 rfl
  rw [he] at v
  have := Option.some.inj v
  rw [← this] at q2
  exact ⟨f, q2⟩
def bst (E l : Nat → Nat) (b c : Nat) : Nat := if E c < E b ∨ (E c = E b ∧ l c < l b) then c else b
theorem t_best1 {K : RK} {g b c F : Nat} {E l : Nat → Nat} (hE : ∀ c, c < 3 → E c ≤ 40 ∧ f_X0_ellsTooMuch K (nI g) (nI c) = some (nI (E c))) (h9 : ∀ c : Nat, c < 3 → K 9 c = nI (l c)) (hl : ∀ c : Nat, c < 3 → l c ≤ 10) (hb : b < 3) (hc : c < 3) : f_X0_gateOfFewestElls_l4 K (F + 1) (nI g) (nI b) (nI c) = f_X0_gateOfFewestElls_l4 K F (nI g) (nI (bst E l b c)) (nI (c + 1)) := by
  have hb1 := hE b hb
  have hc1 := hE c hc
  have lb := hl b hb
  have lc := hl c hc
  rw [show f_X0_gateOfFewestElls_l4 K (F + 1) (nI g) (nI b) (nI c) = _ from by unfold f_X0_gateOfFewestElls_l4; rfl]
  simp (disch := omega) only [hb1.2, hc1.2, h9 b hb, h9 c hc, f_X0_gateOfFewestElls_b54, f_X0_gateOfFewestElls_b71, f_X0_gateOfFewestElls_b73, ↓pu_m1, pu_i0, pu_i1, pu_i2, pu_i3, pu_i4, pu_i5, pu_i6, pu_i7, pu_i8, pu_i9, pu_i10, pu_i11, pu_i12, pu_i13, pu_i14, pu_i15, pu_i16, pu_i17, pu_i18, pu_i19, pu_i20, pu_i21, pu_i22, pu_i30, pu_i33, pu_i34, pu_i36, pu_i40, pu_i42, pu_i48, pu_i49, pu_i50, pu_i57, pu_i59, pu_i60, pu_i62, pu_i86, pu_i94, pu_i99, pu_i103, pu_i106, pu_i108, pu_i109, pu_i111, pu_i113, pu_i119, pu_i126, pu_i999, pu_bnd, pu_nm, pu_gd, pu_bnd2, pu_bxl, pu_bxr, pu_inb, pu_at, pu_put, pu_us, pu_un, pu_Rs, pu_Rn, pu_upS, pu_M1, pu_M2, pu_MS, pu_MM, pu_RR, pu_H1, pu_H2, nI_add, pk_mul, pk_sub, nI_clamp, nI_eq, nI_leI, nI_ltI, pu_in, pu_of, pu_lay, pu_ll, pu_il, pu_h0, pu_h1, pu_h2, pu_nI_mI, pu_mI_nI, pu_mm, pu_nn, pu_nI_le_mI, pu_nI_lt_mI, pu_mI_lt, pu_mI_le, pu_inW, pu_inO, if_pos, if_neg, ↓reduceIte]
  unfold bst
  by_cases q1 : E c < E b
  · have n1 : nI (E c) - nI (E b) < nI 0 := pk_sneg (by omega) q1
    by_cases q2 : l b ≤ l c
    · simp only [q1, q2, n1, true_or, if_true]
    · simp only [q1, q2, n1, true_or, if_true, if_false]
  · have e1 : nI (E c) - nI (E b) = nI (E c - E b) := pk_sub (by omega)
    have n1 : ¬ nI (E c - E b) < nI 0 := nI_nlt (by omega) (by omega)
    by_cases q3 : E c = E b
    · have n2 : nI (E c - E b) = nI 0 := by rw [show E c - E b = 0 from by omega]
      by_cases q2 : l b ≤ l c
      · have q4 : ¬ (E c < E b ∨ (E c = E b ∧ l c < l b)) := by omega
        rw [if_neg q4]
        simp (disch := omega) only [e1, n1, n2, ↓pu_m1, pu_i0, pu_i1, pu_i2, pu_i3, pu_i4, pu_i5, pu_i6, pu_i7, pu_i8, pu_i9, pu_i10, pu_i11, pu_i12, pu_i13, pu_i14, pu_i15, pu_i16, pu_i17, pu_i18, pu_i19, pu_i20, pu_i21, pu_i22, pu_i30, pu_i33, pu_i34, pu_i36, pu_i40, pu_i42, pu_i48, pu_i49, pu_i50, pu_i57, pu_i59, pu_i60, pu_i62, pu_i86, pu_i94, pu_i99, pu_i103, pu_i106, pu_i108, pu_i109, pu_i111, pu_i113, pu_i119, pu_i126, pu_i999, pu_bnd, pu_nm, pu_gd, pu_bnd2, pu_bxl, pu_bxr, pu_inb, pu_at, pu_put, pu_us, pu_un, pu_Rs, pu_Rn, pu_upS, pu_M1, pu_M2, pu_MS, pu_MM, pu_RR, pu_H1, pu_H2, nI_add, pk_mul, pk_sub, nI_clamp, nI_eq, nI_leI, nI_ltI, pu_in, pu_of, pu_lay, pu_ll, pu_il, pu_h0, pu_h1, pu_h2, pu_nI_mI, pu_mI_nI, pu_mm, pu_nn, pu_nI_le_mI, pu_nI_lt_mI, pu_mI_lt, pu_mI_le, pu_inW, pu_inO, if_pos, if_neg, ↓reduceIte]
      · have q4 : (E c < E b ∨ (E c = E b ∧ l c < l b)) := by omega
        rw [if_pos q4]
        simp (disch := omega) only [e1, n1, n2, ↓pu_m1, pu_i0, pu_i1, pu_i2, pu_i3, pu_i4, pu_i5, pu_i6, pu_i7, pu_i8, pu_i9, pu_i10, pu_i11, pu_i12, pu_i13, pu_i14, pu_i15, pu_i16, pu_i17, pu_i18, pu_i19, pu_i20, pu_i21, pu_i22, pu_i30, pu_i33, pu_i34, pu_i36, pu_i40, pu_i42, pu_i48, pu_i49, pu_i50, pu_i57, pu_i59, pu_i60, pu_i62, pu_i86, pu_i94, pu_i99, pu_i103, pu_i106, pu_i108, pu_i109, pu_i111, pu_i113, pu_i119, pu_i126, pu_i999, pu_bnd, pu_nm, pu_gd, pu_bnd2, pu_bxl, pu_bxr, pu_inb, pu_at, pu_put, pu_us, pu_un, pu_Rs, pu_Rn, pu_upS, pu_M1, pu_M2, pu_MS, pu_MM, pu_RR, pu_H1, pu_H2, nI_add, pk_mul, pk_sub, nI_clamp, nI_eq, nI_leI, nI_ltI, pu_in, pu_of, pu_lay, pu_ll, pu_il, pu_h0, pu_h1, pu_h2, pu_nI_mI, pu_mI_nI, pu_mm, pu_nn, pu_nI_le_mI, pu_nI_lt_mI, pu_mI_lt, pu_mI_le, pu_inW, pu_inO, if_pos, if_neg, ↓reduceIte]
    · have n2 : ¬ nI (E c - E b) = nI 0 := by rw [nI_eq (by omega) (by omega)]; omega
      have q4 : ¬ (E c < E b ∨ (E c = E b ∧ l c < l b)) := by omega
      rw [if_neg q4]
      by_cases q2 : l b ≤ l c
      · simp (disch := omega) only [e1, n1, n2, ↓pu_m1, pu_i0, pu_i1, pu_i2, pu_i3, pu_i4, pu_i5, pu_i6, pu_i7, pu_i8, pu_i9, pu_i10, pu_i11, pu_i12, pu_i13, pu_i14, pu_i15, pu_i16, pu_i17, pu_i18, pu_i19, pu_i20, pu_i21, pu_i22, pu_i30, pu_i33, pu_i34, pu_i36, pu_i40, pu_i42, pu_i48, pu_i49, pu_i50, pu_i57, pu_i59, pu_i60, pu_i62, pu_i86, pu_i94, pu_i99, pu_i103, pu_i106, pu_i108, pu_i109, pu_i111, pu_i113, pu_i119, pu_i126, pu_i999, pu_bnd, pu_nm, pu_gd, pu_bnd2, pu_bxl, pu_bxr, pu_inb, pu_at, pu_put, pu_us, pu_un, pu_Rs, pu_Rn, pu_upS, pu_M1, pu_M2, pu_MS, pu_MM, pu_RR, pu_H1, pu_H2, nI_add, pk_mul, pk_sub, nI_clamp, nI_eq, nI_leI, nI_ltI, pu_in, pu_of, pu_lay, pu_ll, pu_il, pu_h0, pu_h1, pu_h2, pu_nI_mI, pu_mI_nI, pu_mm, pu_nn, pu_nI_le_mI, pu_nI_lt_mI, pu_mI_lt, pu_mI_le, pu_inW, pu_inO, if_pos, if_neg, ↓reduceIte]
      · simp (disch := omega) only [e1, n1, n2, ↓pu_m1, pu_i0, pu_i1, pu_i2, pu_i3, pu_i4, pu_i5, pu_i6, pu_i7, pu_i8, pu_i9, pu_i10, pu_i11, pu_i12, pu_i13, pu_i14, pu_i15, pu_i16, pu_i17, pu_i18, pu_i19, pu_i20, pu_i21, pu_i22, pu_i30, pu_i33, pu_i34, pu_i36, pu_i40, pu_i42, pu_i48, pu_i49, pu_i50, pu_i57, pu_i59, pu_i60, pu_i62, pu_i86, pu_i94, pu_i99, pu_i103, pu_i106, pu_i108, pu_i109, pu_i111, pu_i113, pu_i119, pu_i126, pu_i999, pu_bnd, pu_nm, pu_gd, pu_bnd2, pu_bxl, pu_bxr, pu_inb, pu_at, pu_put, pu_us, pu_un, pu_Rs, pu_Rn, pu_upS, pu_M1, pu_M2, pu_MS, pu_MM, pu_RR, pu_H1, pu_H2, nI_add, pk_mul, pk_sub, nI_clamp, nI_eq, nI_leI, nI_ltI, pu_in, pu_of, pu_lay, pu_ll, pu_il, pu_h0, pu_h1, pu_h2, pu_nI_mI, pu_mI_nI, pu_mm, pu_nn, pu_nI_le_mI, pu_nI_lt_mI, pu_mI_lt, pu_mI_le, pu_inW, pu_inO, if_pos, if_neg, ↓reduceIte]
theorem t_best2 {B n : Nat} {l : Nat → Nat} {K : RK} {M : MS} (h : Rel B n l K (M.1 0)) (hB : 360 * B < 2 ^ 30) {g b c F : Nat} {E : Nat → Nat} (hg : g < n) (hE : ∀ c, c < 3 → E c ≤ 40 ∧ f_X0_ellsTooMuch K (nI g) (nI c) = some (nI (E c))) (hb : b < 3) (hc : c < 3) : ∃ f : Nat → Int32, f_X6_best_l22 (F + 1) M (nI g) (nI b) (nI (16 * E b + l b)) (nI c) = f_X6_best_l22 F (upM M 2 f) (nI g) (nI (bst E l b c)) (nI (16 * E (bst E l b c) + l (bst E l b c))) (nI (c + 1)) := by
  obtain ⟨f, hf⟩ := t_would0 h hB hg hc (hE c hc).2
  refine ⟨f, ?_⟩
  have hb1 := hE b hb
  have hc1 := hE c hc
  have lb := h.2.2.2.1.2.2.1 b hb
  have lc := h.2.2.2.1.2.2.1 c hc
  have aL : (upM M 2 f).1 0 (86 + 11 * c) = nI (l c) := (h.2.2.2.2.2.2 c hc).1
  rw [show f_X6_best_l22 (F + 1) M (nI g) (nI b) (nI (16 * E b + l b)) (nI c) = _ from by unfold f_X6_best_l22; rfl]
  unfold bst
  by_cases q : E c < E b ∨ (E c = E b ∧ l c < l b)
  · rw [if_pos q]
    simp (disch := omega) only [hf, aL, f_X6_best_b60, pu_les, ↓pu_m1, pu_i0, pu_i1, pu_i2, pu_i3, pu_i4, pu_i5, pu_i6, pu_i7, pu_i8, pu_i9, pu_i10, pu_i11, pu_i12, pu_i13, pu_i14, pu_i15, pu_i16, pu_i17, pu_i18, pu_i19, pu_i20, pu_i21, pu_i22, pu_i30, pu_i33, pu_i34, pu_i36, pu_i40, pu_i42, pu_i48, pu_i49, pu_i50, pu_i57, pu_i59, pu_i60, pu_i62, pu_i86, pu_i94, pu_i99, pu_i103, pu_i106, pu_i108, pu_i109, pu_i111, pu_i113, pu_i119, pu_i126, pu_i999, pu_bnd, pu_nm, pu_gd, pu_bnd2, pu_bxl, pu_bxr, pu_inb, pu_at, pu_put, pu_us, pu_un, pu_Rs, pu_Rn, pu_upS, pu_M1, pu_M2, pu_MS, pu_MM, pu_RR, pu_H1, pu_H2, nI_add, pk_mul, pk_sub, nI_clamp, nI_eq, nI_leI, nI_ltI, pu_in, pu_of, pu_lay, pu_ll, pu_il, pu_h0, pu_h1, pu_h2, pu_nI_mI, pu_mI_nI, pu_mm, pu_nn, pu_nI_le_mI, pu_nI_lt_mI, pu_mI_lt, pu_mI_le, pu_inW, pu_inO, if_pos, if_neg, ↓reduceIte]
    rw [show min (16 * E c + l c) (16 * E b + l b) = 16 * E c + l c from by omega]
  · rw [if_neg q]
    simp (disch := omega) only [hf, aL, f_X6_best_b60, pu_les, ↓pu_m1, pu_i0, pu_i1, pu_i2, pu_i3, pu_i4, pu_i5, pu_i6, pu_i7, pu_i8, pu_i9, pu_i10, pu_i11, pu_i12, pu_i13, pu_i14, pu_i15, pu_i16, pu_i17, pu_i18, pu_i19, pu_i20, pu_i21, pu_i22, pu_i30, pu_i33, pu_i34, pu_i36, pu_i40, pu_i42, pu_i48, pu_i49, pu_i50, pu_i57, pu_i59, pu_i60, pu_i62, pu_i86, pu_i94, pu_i99, pu_i103, pu_i106, pu_i108, pu_i109, pu_i111, pu_i113, pu_i119, pu_i126, pu_i999, pu_bnd, pu_nm, pu_gd, pu_bnd2, pu_bxl, pu_bxr, pu_inb, pu_at, pu_put, pu_us, pu_un, pu_Rs, pu_Rn, pu_upS, pu_M1, pu_M2, pu_MS, pu_MM, pu_RR, pu_H1, pu_H2, nI_add, pk_mul, pk_sub, nI_clamp, nI_eq, nI_leI, nI_ltI, pu_in, pu_of, pu_lay, pu_ll, pu_il, pu_h0, pu_h1, pu_h2, pu_nI_mI, pu_mI_nI, pu_mm, pu_nn, pu_nI_le_mI, pu_nI_lt_mI, pu_mI_lt, pu_mI_le, pu_inW, pu_inO, if_pos, if_neg, ↓reduceIte]
    rw [show min (16 * E c + l c) (16 * E b + l b) = 16 * E b + l b from by omega]
theorem t_best {B n : Nat} {l : Nat → Nat} {K : RK} {M : MS} (h : Rel B n l K (M.1 0)) (hB : 360 * B < 2 ^ 30) {g : Nat} (hg : g < n) : ∃ (r : Int32) (f : Nat → Int32), f_X0_gateOfFewestElls K (nI g) = some r ∧ f_X6_best M (nI g) = some (r, upM M 2 f) := by
  obtain ⟨E, hE⟩ := t_ells h hB hg
  have h9 := h.2.2.2.1.1
  have hl := h.2.2.2.1.2.2.1
  have b1 : bst E l 0 1 < 3 := by unfold bst; split <;> omega
  have b2 : bst E l (bst E l 0 1) 2 < 3 := by unfold bst; split <;> (try split) <;> omega
  refine ⟨nI (bst E l (bst E l 0 1) 2), ?_⟩
  obtain ⟨f0, hf0⟩ := t_would0 h hB hg (show 0 < 3 by omega) (hE 0 (by omega)).2
  obtain ⟨f1, hf1⟩ := t_best2 (F := 999) (rel_u2 h f0) hB (c := 1) (b := 0) hg hE (by omega) (by omega)
  obtain ⟨f2, hf2⟩ := t_best2 (F := 998) (rel_u2 (rel_u2 h f0) f1) hB (c := 2) hg hE b1 (by omega)
  refine ⟨f2, ?_, ?_⟩
  · have u : f_X0_gateOfFewestElls K (nI g) = f_X0_gateOfFewestElls_l4 K (999 + 1) (nI g) (nI 0) (nI 1) := rfl
    rw [u, t_best1 (c := 1) (b := 0) hE h9 hl (by omega) (by omega)]
    rw [show (999 : Nat) = 998 + 1 from rfl, t_best1 (c := 2) hE h9 hl b1 (by omega)]
    rw [show (998 : Nat) = 997 + 1 from rfl, show f_X0_gateOfFewestElls_l4 K (997 + 1) (nI g) (nI (bst E l (bst E l 0 1) 2)) (nI (2 + 1)) = _ from by unfold f_X0_gateOfFewestElls_l4; rfl]
    simp (disch := omega) only [↓pu_m1, pu_i0, pu_i1, pu_i2, pu_i3, pu_i4, pu_i5, pu_i6, pu_i7, pu_i8, pu_i9, pu_i10, pu_i11, pu_i12, pu_i13, pu_i14, pu_i15, pu_i16, pu_i17, pu_i18, pu_i19, pu_i20, pu_i21, pu_i22, pu_i30, pu_i33, pu_i34, pu_i36, pu_i40, pu_i42, pu_i48, pu_i49, pu_i50, pu_i57, pu_i59, pu_i60, pu_i62, pu_i86, pu_i94, pu_i99, pu_i103, pu_i106, pu_i108, pu_i109, pu_i111, pu_i113, pu_i119, pu_i126, pu_i999, pu_bnd, pu_nm, pu_gd, pu_bnd2, pu_bxl, pu_bxr, pu_inb, pu_at, pu_put, pu_us, pu_un, pu_Rs, pu_Rn, pu_upS, pu_M1, pu_M2, pu_MS, pu_MM, pu_RR, pu_H1, pu_H2, nI_add, pk_mul, pk_sub, nI_clamp, nI_eq, nI_leI, nI_ltI, pu_in, pu_of, pu_lay, pu_ll, pu_il, pu_h0, pu_h1, pu_h2, pu_nI_mI, pu_mI_nI, pu_mm, pu_nn, pu_nI_le_mI, pu_nI_lt_mI, pu_mI_lt, pu_mI_le, pu_inW, pu_inO, if_pos, if_neg, ↓reduceIte]
  · have aL : (upM M 2 f0).1 0 (86 + 11 * 0) = nI (l 0) := (h.2.2.2.2.2.2 0 (by omega)).1
    have u : f_X6_best M (nI g) = f_X6_best_l22 (999 + 1) (upM M 2 f0) (nI g) (nI 0) (nI (16 * E 0 + l 0)) (nI 1) := by
      unfold f_X6_best
      simp (disch := omega) only [hf0, aL, ↓pu_m1, pu_i0, pu_i1, pu_i2, pu_i3, pu_i4, pu_i5, pu_i6, pu_i7, pu_i8, pu_i9, pu_i10, pu_i11, pu_i12, pu_i13, pu_i14, pu_i15, pu_i16, pu_i17, pu_i18, pu_i19, pu_i20, pu_i21, pu_i22, pu_i30, pu_i33, pu_i34, pu_i36, pu_i40, pu_i42, pu_i48, pu_i49, pu_i50, pu_i57, pu_i59, pu_i60, pu_i62, pu_i86, pu_i94, pu_i99, pu_i103, pu_i106, pu_i108, pu_i109, pu_i111, pu_i113, pu_i119, pu_i126, pu_i999, pu_bnd, pu_nm, pu_gd, pu_bnd2, pu_bxl, pu_bxr, pu_inb, pu_at, pu_put, pu_us, pu_un, pu_Rs, pu_Rn, pu_upS, pu_M1, pu_M2, pu_MS, pu_MM, pu_RR, pu_H1, pu_H2, nI_add, pk_mul, pk_sub, nI_clamp, nI_eq, nI_leI, nI_ltI, pu_in, pu_of, pu_lay, pu_ll, pu_il, pu_h0, pu_h1, pu_h2, pu_nI_mI, pu_mI_nI, pu_mm, pu_nn, pu_nI_le_mI, pu_nI_lt_mI, pu_mI_lt, pu_mI_le, pu_inW, pu_inO, if_pos, if_neg, ↓reduceIte]
      rfl
    rw [u, hf1, show (999 : Nat) = 998 + 1 from rfl, hf2]
    rw [show (998 : Nat) = 997 + 1 from rfl, show f_X6_best_l22 (997 + 1) (upM (upM (upM M 2 f0) 2 f1) 2 f2) (nI g) (nI (bst E l (bst E l 0 1) 2)) (nI (16 * E (bst E l (bst E l 0 1) 2) + l (bst E l (bst E l 0 1) 2))) (nI (2 + 1)) = _ from by unfold f_X6_best_l22; rfl]
    simp (disch := omega) only [↓pu_m1, pu_i0, pu_i1, pu_i2, pu_i3, pu_i4, pu_i5, pu_i6, pu_i7, pu_i8, pu_i9, pu_i10, pu_i11, pu_i12, pu_i13, pu_i14, pu_i15, pu_i16, pu_i17, pu_i18, pu_i19, pu_i20, pu_i21, pu_i22, pu_i30, pu_i33, pu_i34, pu_i36, pu_i40, pu_i42, pu_i48, pu_i49, pu_i50, pu_i57, pu_i59, pu_i60, pu_i62, pu_i86, pu_i94, pu_i99, pu_i103, pu_i106, pu_i108, pu_i109, pu_i111, pu_i113, pu_i119, pu_i126, pu_i999, pu_bnd, pu_nm, pu_gd, pu_bnd2, pu_bxl, pu_bxr, pu_inb, pu_at, pu_put, pu_us, pu_un, pu_Rs, pu_Rn, pu_upS, pu_M1, pu_M2, pu_MS, pu_MM, pu_RR, pu_H1, pu_H2, nI_add, pk_mul, pk_sub, nI_clamp, nI_eq, nI_leI, nI_ltI, pu_in, pu_of, pu_lay, pu_ll, pu_il, pu_h0, pu_h1, pu_h2, pu_nI_mI, pu_mI_nI, pu_mm, pu_nn, pu_nI_le_mI, pu_nI_lt_mI, pu_mI_lt, pu_mI_le, pu_inW, pu_inO, if_pos, if_neg, ↓reduceIte]
theorem t_allows {B n : Nat} {l : Nat → Nat} {K : RK} {M : MS} (h : Rel B n l K (M.1 0)) {g c t : Nat} (hg : g < n) (hc : c < 3) (ht : t < 2 ^ 31) : ∃ (r y x : Nat), r ≤ 4 ∧ y ≤ 40 ∧ x ≤ 100 ∧ M.1 0 (16 + 7 * g + 0) = nI r ∧ wl K g = nI y ∧ f_X6_allowed M (nI c) (nI r) (nI t) = some (nI x) ∧ f_X0_allowsLace K (nI g) (nI c) (nI t) = some (if x < y then nI 0 else nI 1) := by
  have hn := h.n10
  obtain ⟨r, p, d, c3, m, i, hb, hk, a0, a1, a2, a3, a4, a5, a6⟩ := h.gs hg
  obtain ⟨x, hx, ex1, ex2⟩ := t_allowed h hc hb.1 ht
  obtain ⟨y, hy, ey, hy2⟩ := wl_val h hg
  have tl := t_wl h.2.2.1 hn hg
  rw [ey] at tl
  refine ⟨r, y, x, hb.1, hy, hx, a0, ey, ex2, ?_⟩
  unfold f_X0_allowsLace
  rw [tl]
  by_cases q : x < y
  · simp (disch := omega) only [hk.1, ex1, ↓pu_m1, pu_i0, pu_i1, pu_i2, pu_i3, pu_i4, pu_i5, pu_i6, pu_i7, pu_i8, pu_i9, pu_i10, pu_i11, pu_i12, pu_i13, pu_i14, pu_i15, pu_i16, pu_i17, pu_i18, pu_i19, pu_i20, pu_i21, pu_i22, pu_i30, pu_i33, pu_i34, pu_i36, pu_i40, pu_i42, pu_i48, pu_i49, pu_i50, pu_i57, pu_i59, pu_i60, pu_i62, pu_i86, pu_i94, pu_i99, pu_i103, pu_i106, pu_i108, pu_i109, pu_i111, pu_i113, pu_i119, pu_i126, pu_i999, pu_bnd, pu_nm, pu_gd, pu_bnd2, pu_bxl, pu_bxr, pu_inb, pu_at, pu_put, pu_us, pu_un, pu_Rs, pu_Rn, pu_upS, pu_M1, pu_M2, pu_MS, pu_MM, pu_RR, pu_H1, pu_H2, nI_add, pk_mul, pk_sub, nI_clamp, nI_eq, nI_leI, nI_ltI, pu_in, pu_of, pu_lay, pu_ll, pu_il, pu_h0, pu_h1, pu_h2, pu_nI_mI, pu_mI_nI, pu_mm, pu_nn, pu_nI_le_mI, pu_nI_lt_mI, pu_mI_lt, pu_mI_le, pu_inW, pu_inO, if_pos, if_neg, ↓reduceIte]
  · simp (disch := omega) only [hk.1, ex1, ↓pu_m1, pu_i0, pu_i1, pu_i2, pu_i3, pu_i4, pu_i5, pu_i6, pu_i7, pu_i8, pu_i9, pu_i10, pu_i11, pu_i12, pu_i13, pu_i14, pu_i15, pu_i16, pu_i17, pu_i18, pu_i19, pu_i20, pu_i21, pu_i22, pu_i30, pu_i33, pu_i34, pu_i36, pu_i40, pu_i42, pu_i48, pu_i49, pu_i50, pu_i57, pu_i59, pu_i60, pu_i62, pu_i86, pu_i94, pu_i99, pu_i103, pu_i106, pu_i108, pu_i109, pu_i111, pu_i113, pu_i119, pu_i126, pu_i999, pu_bnd, pu_nm, pu_gd, pu_bnd2, pu_bxl, pu_bxr, pu_inb, pu_at, pu_put, pu_us, pu_un, pu_Rs, pu_Rn, pu_upS, pu_M1, pu_M2, pu_MS, pu_MM, pu_RR, pu_H1, pu_H2, nI_add, pk_mul, pk_sub, nI_clamp, nI_eq, nI_leI, nI_ltI, pu_in, pu_of, pu_lay, pu_ll, pu_il, pu_h0, pu_h1, pu_h2, pu_nI_mI, pu_mI_nI, pu_mm, pu_nn, pu_nI_le_mI, pu_nI_lt_mI, pu_mI_lt, pu_mI_le, pu_inW, pu_inO, if_pos, if_neg, ↓reduceIte]
theorem t_free_l {B n : Nat} {l : Nat → Nat} {K : RK} {M : MS} (h : Rel B n l K (M.1 0)) (hB : 360 * B < 2 ^ 30) {g c : Nat} (hg : g < n) (hc : c < 3) : ∀ (k i F F2 : Nat), i + k = 7 → k < F → k < F2 → ∃ r : Int32, f_X0_nightsUntilAllowed_l2 K F (nI g) (nI c) (nI i) = some r ∧ f_X6_free_l2 M F2 (nI g) (nI c) (nI i) = some r := by
  have hn := h.n10
  obtain ⟨t, ht, et⟩ := h.1.2.2.1
  have wt : M.1 0 0 = nI t := by rw [h.2.2.2.2.1.1, et]
  have tw := t_worn h hg
  intro k
  induction k with
  | zero =>
    intro i F F2 hi hF hF2
    obtain ⟨F, rfl⟩ : ∃ q, F = q + 1 := ⟨F - 1, by omega⟩
    obtain ⟨F2, rfl⟩ : ∃ q, F2 = q + 1 := ⟨F2 - 1, by omega⟩
    refine ⟨mI, ?_, ?_⟩
    · unfold f_X0_nightsUntilAllowed_l2
      simp (disch := omega) only [↓pu_m1, pu_i0, pu_i1, pu_i2, pu_i3, pu_i4, pu_i5, pu_i6, pu_i7, pu_i8, pu_i9, pu_i10, pu_i11, pu_i12, pu_i13, pu_i14, pu_i15, pu_i16, pu_i17, pu_i18, pu_i19, pu_i20, pu_i21, pu_i22, pu_i30, pu_i33, pu_i34, pu_i36, pu_i40, pu_i42, pu_i48, pu_i49, pu_i50, pu_i57, pu_i59, pu_i60, pu_i62, pu_i86, pu_i94, pu_i99, pu_i103, pu_i106, pu_i108, pu_i109, pu_i111, pu_i113, pu_i119, pu_i126, pu_i999, pu_bnd, pu_nm, pu_gd, pu_bnd2, pu_bxl, pu_bxr, pu_inb, pu_at, pu_put, pu_us, pu_un, pu_Rs, pu_Rn, pu_upS, pu_M1, pu_M2, pu_MS, pu_MM, pu_RR, pu_H1, pu_H2, nI_add, pk_mul, pk_sub, nI_clamp, nI_eq, nI_leI, nI_ltI, pu_in, pu_of, pu_lay, pu_ll, pu_il, pu_h0, pu_h1, pu_h2, pu_nI_mI, pu_mI_nI, pu_mm, pu_nn, pu_nI_le_mI, pu_nI_lt_mI, pu_mI_lt, pu_mI_le, pu_inW, pu_inO, if_pos, if_neg, ↓reduceIte]
    · unfold f_X6_free_l2
      simp (disch := omega) only [↓pu_m1, pu_i0, pu_i1, pu_i2, pu_i3, pu_i4, pu_i5, pu_i6, pu_i7, pu_i8, pu_i9, pu_i10, pu_i11, pu_i12, pu_i13, pu_i14, pu_i15, pu_i16, pu_i17, pu_i18, pu_i19, pu_i20, pu_i21, pu_i22, pu_i30, pu_i33, pu_i34, pu_i36, pu_i40, pu_i42, pu_i48, pu_i49, pu_i50, pu_i57, pu_i59, pu_i60, pu_i62, pu_i86, pu_i94, pu_i99, pu_i103, pu_i106, pu_i108, pu_i109, pu_i111, pu_i113, pu_i119, pu_i126, pu_i999, pu_bnd, pu_nm, pu_gd, pu_bnd2, pu_bxl, pu_bxr, pu_inb, pu_at, pu_put, pu_us, pu_un, pu_Rs, pu_Rn, pu_upS, pu_M1, pu_M2, pu_MS, pu_MM, pu_RR, pu_H1, pu_H2, nI_add, pk_mul, pk_sub, nI_clamp, nI_eq, nI_leI, nI_ltI, pu_in, pu_of, pu_lay, pu_ll, pu_il, pu_h0, pu_h1, pu_h2, pu_nI_mI, pu_mI_nI, pu_mm, pu_nn, pu_nI_le_mI, pu_nI_lt_mI, pu_mI_lt, pu_mI_le, pu_inW, pu_inO, if_pos, if_neg, ↓reduceIte]
  | succ k ih =>
    intro i F F2 hi hF hF2
    obtain ⟨F, rfl⟩ : ∃ q, F = q + 1 := ⟨F - 1, by omega⟩
    obtain ⟨F2, rfl⟩ : ∃ q, F2 = q + 1 := ⟨F2 - 1, by omega⟩
    obtain ⟨r, y, x, hr, hy, hx, a0, ey, ex, al⟩ := t_allows h hg hc (show t + i < 2 ^ 31 by omega)
    rw [ey] at tw
    by_cases q : x < y
    · obtain ⟨v, v1, v2⟩ := ih (i + 1) F F2 (by omega) (by omega) (by omega)
      refine ⟨v, ?_, ?_⟩
      · unfold f_X0_nightsUntilAllowed_l2
        simp (disch := omega) only [et, al, ↓pu_m1, pu_i0, pu_i1, pu_i2, pu_i3, pu_i4, pu_i5, pu_i6, pu_i7, pu_i8, pu_i9, pu_i10, pu_i11, pu_i12, pu_i13, pu_i14, pu_i15, pu_i16, pu_i17, pu_i18, pu_i19, pu_i20, pu_i21, pu_i22, pu_i30, pu_i33, pu_i34, pu_i36, pu_i40, pu_i42, pu_i48, pu_i49, pu_i50, pu_i57, pu_i59, pu_i60, pu_i62, pu_i86, pu_i94, pu_i99, pu_i103, pu_i106, pu_i108, pu_i109, pu_i111, pu_i113, pu_i119, pu_i126, pu_i999, pu_bnd, pu_nm, pu_gd, pu_bnd2, pu_bxl, pu_bxr, pu_inb, pu_at, pu_put, pu_us, pu_un, pu_Rs, pu_Rn, pu_upS, pu_M1, pu_M2, pu_MS, pu_MM, pu_RR, pu_H1, pu_H2, nI_add, pk_mul, pk_sub, nI_clamp, nI_eq, nI_leI, nI_ltI, pu_in, pu_of, pu_lay, pu_ll, pu_il, pu_h0, pu_h1, pu_h2, pu_nI_mI, pu_mI_nI, pu_mm, pu_nn, pu_nI_le_mI, pu_nI_lt_mI, pu_mI_lt, pu_mI_le, pu_inW, pu_inO, if_pos, if_neg, ↓reduceIte]
        exact v1
      · unfold f_X6_free_l2
        simp (disch := omega) only [wt, tw, a0, ex, ↓pu_m1, pu_i0, pu_i1, pu_i2, pu_i3, pu_i4, pu_i5, pu_i6, pu_i7, pu_i8, pu_i9, pu_i10, pu_i11, pu_i12, pu_i13, pu_i14, pu_i15, pu_i16, pu_i17, pu_i18, pu_i19, pu_i20, pu_i21, pu_i22, pu_i30, pu_i33, pu_i34, pu_i36, pu_i40, pu_i42, pu_i48, pu_i49, pu_i50, pu_i57, pu_i59, pu_i60, pu_i62, pu_i86, pu_i94, pu_i99, pu_i103, pu_i106, pu_i108, pu_i109, pu_i111, pu_i113, pu_i119, pu_i126, pu_i999, pu_bnd, pu_nm, pu_gd, pu_bnd2, pu_bxl, pu_bxr, pu_inb, pu_at, pu_put, pu_us, pu_un, pu_Rs, pu_Rn, pu_upS, pu_M1, pu_M2, pu_MS, pu_MM, pu_RR, pu_H1, pu_H2, nI_add, pk_mul, pk_sub, nI_clamp, nI_eq, nI_leI, nI_ltI, pu_in, pu_of, pu_lay, pu_ll, pu_il, pu_h0, pu_h1, pu_h2, pu_nI_mI, pu_mI_nI, pu_mm, pu_nn, pu_nI_le_mI, pu_nI_lt_mI, pu_mI_lt, pu_mI_le, pu_inW, pu_inO, if_pos, if_neg, ↓reduceIte]
        exact v2
    · refine ⟨nI i, ?_, ?_⟩
      · unfold f_X0_nightsUntilAllowed_l2
        simp (disch := omega) only [et, al, ↓pu_m1, pu_i0, pu_i1, pu_i2, pu_i3, pu_i4, pu_i5, pu_i6, pu_i7, pu_i8, pu_i9, pu_i10, pu_i11, pu_i12, pu_i13, pu_i14, pu_i15, pu_i16, pu_i17, pu_i18, pu_i19, pu_i20, pu_i21, pu_i22, pu_i30, pu_i33, pu_i34, pu_i36, pu_i40, pu_i42, pu_i48, pu_i49, pu_i50, pu_i57, pu_i59, pu_i60, pu_i62, pu_i86, pu_i94, pu_i99, pu_i103, pu_i106, pu_i108, pu_i109, pu_i111, pu_i113, pu_i119, pu_i126, pu_i999, pu_bnd, pu_nm, pu_gd, pu_bnd2, pu_bxl, pu_bxr, pu_inb, pu_at, pu_put, pu_us, pu_un, pu_Rs, pu_Rn, pu_upS, pu_M1, pu_M2, pu_MS, pu_MM, pu_RR, pu_H1, pu_H2, nI_add, pk_mul, pk_sub, nI_clamp, nI_eq, nI_leI, nI_ltI, pu_in, pu_of, pu_lay, pu_ll, pu_il, pu_h0, pu_h1, pu_h2, pu_nI_mI, pu_mI_nI, pu_mm, pu_nn, pu_nI_le_mI, pu_nI_lt_mI, pu_mI_lt, pu_mI_le, pu_inW, pu_inO, if_pos, if_neg, ↓reduceIte]
      · unfold f_X6_free_l2
        simp (disch := omega) only [wt, tw, a0, ex, ↓pu_m1, pu_i0, pu_i1, pu_i2, pu_i3, pu_i4, pu_i5, pu_i6, pu_i7, pu_i8, pu_i9, pu_i10, pu_i11, pu_i12, pu_i13, pu_i14, pu_i15, pu_i16, pu_i17, pu_i18, pu_i19, pu_i20, pu_i21, pu_i22, pu_i30, pu_i33, pu_i34, pu_i36, pu_i40, pu_i42, pu_i48, pu_i49, pu_i50, pu_i57, pu_i59, pu_i60, pu_i62, pu_i86, pu_i94, pu_i99, pu_i103, pu_i106, pu_i108, pu_i109, pu_i111, pu_i113, pu_i119, pu_i126, pu_i999, pu_bnd, pu_nm, pu_gd, pu_bnd2, pu_bxl, pu_bxr, pu_inb, pu_at, pu_put, pu_us, pu_un, pu_Rs, pu_Rn, pu_upS, pu_M1, pu_M2, pu_MS, pu_MM, pu_RR, pu_H1, pu_H2, nI_add, pk_mul, pk_sub, nI_clamp, nI_eq, nI_leI, nI_ltI, pu_in, pu_of, pu_lay, pu_ll, pu_il, pu_h0, pu_h1, pu_h2, pu_nI_mI, pu_mI_nI, pu_mm, pu_nn, pu_nI_le_mI, pu_nI_lt_mI, pu_mI_lt, pu_mI_le, pu_inW, pu_inO, if_pos, if_neg, ↓reduceIte]
theorem t_free {B n : Nat} {l : Nat → Nat} {K : RK} {M : MS} (h : Rel B n l K (M.1 0)) (hB : 360 * B < 2 ^ 30) {g c : Nat} (hg : g < n) (hc : c < 3) : ∃ r : Int32, f_X0_nightsUntilAllowed K (nI g) (nI c) = some r ∧ f_X6_free M (nI g) (nI c) = some r := t_free_l h hB hg hc 7 0 fuelN fuelN (by omega) (by unfold fuelN; omega) (by unfold fuelN; omega)
theorem t_decent_l {B n : Nat} {l : Nat → Nat} {K : RK} {M : MS} (h : Rel B n l K (M.1 0)) (hB : 360 * B < 2 ^ 30) (hn0 : 0 < n) : ∀ (k i a F F2 : Nat), i + k = n → a ≤ i → k < F → k < F2 → ∃ r : UInt64, f_X0_shareOfDecent_l16 K F (nI a) (nI i) = some r ∧ f_X6_decent_l4 M F2 (nI a) (nI i) = some r ∧ f_X5_bitsOf r = f_X6_bits r ∧ (f_X6_bits r).isSome = true := by
  have hn := h.n10
  obtain ⟨t, ht, et⟩ := h.1.2.2.1
  have wt : M.1 0 0 = nI t := by rw [h.2.2.2.2.1.1, et]
  have e12 := h.1.2.1
  have w1 : M.1 0 1 = nI n := by rw [h.2.2.2.2.1.2.1, e12]
  intro k
  induction k with
  | zero =>
    intro i a F F2 hi ha hF hF2
    obtain ⟨F, rfl⟩ : ∃ q, F = q + 1 := ⟨F - 1, by omega⟩
    obtain ⟨F2, rfl⟩ : ∃ q, F2 = q + 1 := ⟨F2 - 1, by omega⟩
    obtain ⟨b1, b2, b3⟩ := t_n64 (n := n) (a := a) (by omega) hn0 (by omega)
    refine ⟨FP.ddiv (FP.i2d (nI a)) (FP.i2d (nI n)), ?_, ?_, b2, b3⟩
    · unfold f_X0_shareOfDecent_l16
      simp (disch := omega) only [e12, b1, ↓pu_m1, pu_i0, pu_i1, pu_i2, pu_i3, pu_i4, pu_i5, pu_i6, pu_i7, pu_i8, pu_i9, pu_i10, pu_i11, pu_i12, pu_i13, pu_i14, pu_i15, pu_i16, pu_i17, pu_i18, pu_i19, pu_i20, pu_i21, pu_i22, pu_i30, pu_i33, pu_i34, pu_i36, pu_i40, pu_i42, pu_i48, pu_i49, pu_i50, pu_i57, pu_i59, pu_i60, pu_i62, pu_i86, pu_i94, pu_i99, pu_i103, pu_i106, pu_i108, pu_i109, pu_i111, pu_i113, pu_i119, pu_i126, pu_i999, pu_bnd, pu_nm, pu_gd, pu_bnd2, pu_bxl, pu_bxr, pu_inb, pu_at, pu_put, pu_us, pu_un, pu_Rs, pu_Rn, pu_upS, pu_M1, pu_M2, pu_MS, pu_MM, pu_RR, pu_H1, pu_H2, nI_add, pk_mul, pk_sub, nI_clamp, nI_eq, nI_leI, nI_ltI, pu_in, pu_of, pu_lay, pu_ll, pu_il, pu_h0, pu_h1, pu_h2, pu_nI_mI, pu_mI_nI, pu_mm, pu_nn, pu_nI_le_mI, pu_nI_lt_mI, pu_mI_lt, pu_mI_le, pu_inW, pu_inO, if_pos, if_neg, ↓reduceIte]
    · unfold f_X6_decent_l4
      simp (disch := omega) only [w1, b1, ↓pu_m1, pu_i0, pu_i1, pu_i2, pu_i3, pu_i4, pu_i5, pu_i6, pu_i7, pu_i8, pu_i9, pu_i10, pu_i11, pu_i12, pu_i13, pu_i14, pu_i15, pu_i16, pu_i17, pu_i18, pu_i19, pu_i20, pu_i21, pu_i22, pu_i30, pu_i33, pu_i34, pu_i36, pu_i40, pu_i42, pu_i48, pu_i49, pu_i50, pu_i57, pu_i59, pu_i60, pu_i62, pu_i86, pu_i94, pu_i99, pu_i103, pu_i106, pu_i108, pu_i109, pu_i111, pu_i113, pu_i119, pu_i126, pu_i999, pu_bnd, pu_nm, pu_gd, pu_bnd2, pu_bxl, pu_bxr, pu_inb, pu_at, pu_put, pu_us, pu_un, pu_Rs, pu_Rn, pu_upS, pu_M1, pu_M2, pu_MS, pu_MM, pu_RR, pu_H1, pu_H2, nI_add, pk_mul, pk_sub, nI_clamp, nI_eq, nI_leI, nI_ltI, pu_in, pu_of, pu_lay, pu_ll, pu_il, pu_h0, pu_h1, pu_h2, pu_nI_mI, pu_mI_nI, pu_mm, pu_nn, pu_nI_le_mI, pu_nI_lt_mI, pu_mI_lt, pu_mI_le, pu_inW, pu_inO, if_pos, if_neg, ↓reduceIte]
  | succ k ih =>
    intro i a F F2 hi ha hF hF2
    obtain ⟨F, rfl⟩ : ∃ q, F = q + 1 := ⟨F - 1, by omega⟩
    obtain ⟨F2, rfl⟩ : ∃ q, F2 = q + 1 := ⟨F2 - 1, by omega⟩
    have hg : i < n := by omega
    have tw := t_worn h hg
    obtain ⟨r, y, x, hr, hy, hx, a0, ey, ex, al⟩ := t_allows h hg (show 0 < 3 by omega) (show t < 2 ^ 31 by omega)
    rw [ey] at tw
    by_cases q : x < y
    · obtain ⟨v, v1, v2, v3⟩ := ih (i + 1) a F F2 (by omega) (by omega) (by omega) (by omega)
      refine ⟨v, ?_, ?_, v3⟩
      · unfold f_X0_shareOfDecent_l16
        simp (disch := omega) only [e12, et, al, f_X0_shareOfDecent_b46, ↓pu_m1, pu_i0, pu_i1, pu_i2, pu_i3, pu_i4, pu_i5, pu_i6, pu_i7, pu_i8, pu_i9, pu_i10, pu_i11, pu_i12, pu_i13, pu_i14, pu_i15, pu_i16, pu_i17, pu_i18, pu_i19, pu_i20, pu_i21, pu_i22, pu_i30, pu_i33, pu_i34, pu_i36, pu_i40, pu_i42, pu_i48, pu_i49, pu_i50, pu_i57, pu_i59, pu_i60, pu_i62, pu_i86, pu_i94, pu_i99, pu_i103, pu_i106, pu_i108, pu_i109, pu_i111, pu_i113, pu_i119, pu_i126, pu_i999, pu_bnd, pu_nm, pu_gd, pu_bnd2, pu_bxl, pu_bxr, pu_inb, pu_at, pu_put, pu_us, pu_un, pu_Rs, pu_Rn, pu_upS, pu_M1, pu_M2, pu_MS, pu_MM, pu_RR, pu_H1, pu_H2, nI_add, pk_mul, pk_sub, nI_clamp, nI_eq, nI_leI, nI_ltI, pu_in, pu_of, pu_lay, pu_ll, pu_il, pu_h0, pu_h1, pu_h2, pu_nI_mI, pu_mI_nI, pu_mm, pu_nn, pu_nI_le_mI, pu_nI_lt_mI, pu_mI_lt, pu_mI_le, pu_inW, pu_inO, if_pos, if_neg, ↓reduceIte]
        exact v1
      · unfold f_X6_decent_l4
        simp (disch := omega) only [w1, wt, tw, a0, ex, f_X6_decent_b45, ↓pu_m1, pu_i0, pu_i1, pu_i2, pu_i3, pu_i4, pu_i5, pu_i6, pu_i7, pu_i8, pu_i9, pu_i10, pu_i11, pu_i12, pu_i13, pu_i14, pu_i15, pu_i16, pu_i17, pu_i18, pu_i19, pu_i20, pu_i21, pu_i22, pu_i30, pu_i33, pu_i34, pu_i36, pu_i40, pu_i42, pu_i48, pu_i49, pu_i50, pu_i57, pu_i59, pu_i60, pu_i62, pu_i86, pu_i94, pu_i99, pu_i103, pu_i106, pu_i108, pu_i109, pu_i111, pu_i113, pu_i119, pu_i126, pu_i999, pu_bnd, pu_nm, pu_gd, pu_bnd2, pu_bxl, pu_bxr, pu_inb, pu_at, pu_put, pu_us, pu_un, pu_Rs, pu_Rn, pu_upS, pu_M1, pu_M2, pu_MS, pu_MM, pu_RR, pu_H1, pu_H2, nI_add, pk_mul, pk_sub, nI_clamp, nI_eq, nI_leI, nI_ltI, pu_in, pu_of, pu_lay, pu_ll, pu_il, pu_h0, pu_h1, pu_h2, pu_nI_mI, pu_mI_nI, pu_mm, pu_nn, pu_nI_le_mI, pu_nI_lt_mI, pu_mI_lt, pu_mI_le, pu_inW, pu_inO, if_pos, if_neg, ↓reduceIte]
        exact v2
    · obtain ⟨v, v1, v2, v3⟩ := ih (i + 1) (a + 1) F F2 (by omega) (by omega) (by omega) (by omega)
      refine ⟨v, ?_, ?_, v3⟩
      · unfold f_X0_shareOfDecent_l16
        simp (disch := omega) only [e12, et, al, f_X0_shareOfDecent_b46, ↓pu_m1, pu_i0, pu_i1, pu_i2, pu_i3, pu_i4, pu_i5, pu_i6, pu_i7, pu_i8, pu_i9, pu_i10, pu_i11, pu_i12, pu_i13, pu_i14, pu_i15, pu_i16, pu_i17, pu_i18, pu_i19, pu_i20, pu_i21, pu_i22, pu_i30, pu_i33, pu_i34, pu_i36, pu_i40, pu_i42, pu_i48, pu_i49, pu_i50, pu_i57, pu_i59, pu_i60, pu_i62, pu_i86, pu_i94, pu_i99, pu_i103, pu_i106, pu_i108, pu_i109, pu_i111, pu_i113, pu_i119, pu_i126, pu_i999, pu_bnd, pu_nm, pu_gd, pu_bnd2, pu_bxl, pu_bxr, pu_inb, pu_at, pu_put, pu_us, pu_un, pu_Rs, pu_Rn, pu_upS, pu_M1, pu_M2, pu_MS, pu_MM, pu_RR, pu_H1, pu_H2, nI_add, pk_mul, pk_sub, nI_clamp, nI_eq, nI_leI, nI_ltI, pu_in, pu_of, pu_lay, pu_ll, pu_il, pu_h0, pu_h1, pu_h2, pu_nI_mI, pu_mI_nI, pu_mm, pu_nn, pu_nI_le_mI, pu_nI_lt_mI, pu_mI_lt, pu_mI_le, pu_inW, pu_inO, if_pos, if_neg, ↓reduceIte]
        exact v1
      · unfold f_X6_decent_l4
        simp (disch := omega) only [w1, wt, tw, a0, ex, f_X6_decent_b45, ↓pu_m1, pu_i0, pu_i1, pu_i2, pu_i3, pu_i4, pu_i5, pu_i6, pu_i7, pu_i8, pu_i9, pu_i10, pu_i11, pu_i12, pu_i13, pu_i14, pu_i15, pu_i16, pu_i17, pu_i18, pu_i19, pu_i20, pu_i21, pu_i22, pu_i30, pu_i33, pu_i34, pu_i36, pu_i40, pu_i42, pu_i48, pu_i49, pu_i50, pu_i57, pu_i59, pu_i60, pu_i62, pu_i86, pu_i94, pu_i99, pu_i103, pu_i106, pu_i108, pu_i109, pu_i111, pu_i113, pu_i119, pu_i126, pu_i999, pu_bnd, pu_nm, pu_gd, pu_bnd2, pu_bxl, pu_bxr, pu_inb, pu_at, pu_put, pu_us, pu_un, pu_Rs, pu_Rn, pu_upS, pu_M1, pu_M2, pu_MS, pu_MM, pu_RR, pu_H1, pu_H2, nI_add, pk_mul, pk_sub, nI_clamp, nI_eq, nI_leI, nI_ltI, pu_in, pu_of, pu_lay, pu_ll, pu_il, pu_h0, pu_h1, pu_h2, pu_nI_mI, pu_mI_nI, pu_mm, pu_nn, pu_nI_le_mI, pu_nI_lt_mI, pu_mI_lt, pu_mI_le, pu_inW, pu_inO, if_pos, if_neg, ↓reduceIte]
        exact v2
set_option maxRecDepth 100000 in
theorem t_decent {B n : Nat} {l : Nat → Nat} {K : RK} {M : MS} (h : Rel B n l K (M.1 0)) (hB : 360 * B < 2 ^ 30) : ∃ r : UInt64, f_X0_shareOfDecent K = some r ∧ f_X6_decent M = some r ∧ f_X5_bitsOf r = f_X6_bits r ∧ (f_X6_bits r).isSome = true := by
  have hn := h.n10
  have e12 := h.1.2.1
  have w1 : M.1 0 1 = nI n := by rw [h.2.2.2.2.1.2.1, e12]
  by_cases q : 0 < n
  · obtain ⟨r, h1, h2, h3⟩ := t_decent_l h hB q n 0 0 fuelN fuelN (by omega) (by omega) (by unfold fuelN; omega) (by unfold fuelN; omega)
    refine ⟨r, ?_, h2, h3⟩
    unfold f_X0_shareOfDecent
    simp (disch := omega) only [e12, ↓pu_m1, pu_i0, pu_i1, pu_i2, pu_i3, pu_i4, pu_i5, pu_i6, pu_i7, pu_i8, pu_i9, pu_i10, pu_i11, pu_i12, pu_i13, pu_i14, pu_i15, pu_i16, pu_i17, pu_i18, pu_i19, pu_i20, pu_i21, pu_i22, pu_i30, pu_i33, pu_i34, pu_i36, pu_i40, pu_i42, pu_i48, pu_i49, pu_i50, pu_i57, pu_i59, pu_i60, pu_i62, pu_i86, pu_i94, pu_i99, pu_i103, pu_i106, pu_i108, pu_i109, pu_i111, pu_i113, pu_i119, pu_i126, pu_i999, pu_bnd, pu_nm, pu_gd, pu_bnd2, pu_bxl, pu_bxr, pu_inb, pu_at, pu_put, pu_us, pu_un, pu_Rs, pu_Rn, pu_upS, pu_M1, pu_M2, pu_MS, pu_MM, pu_RR, pu_H1, pu_H2, nI_add, pk_mul, pk_sub, nI_clamp, nI_eq, nI_leI, nI_ltI, pu_in, pu_of, pu_lay, pu_ll, pu_il, pu_h0, pu_h1, pu_h2, pu_nI_mI, pu_mI_nI, pu_mm, pu_nn, pu_nI_le_mI, pu_nI_lt_mI, pu_mI_lt, pu_mI_le, pu_inW, pu_inO, if_pos, if_neg, ↓reduceIte]
    exact h1
  · have q0 : n = 0 := by omega
    subst q0
    refine ⟨FP.dconst1, ?_, ?_, t_bit1⟩
    · unfold f_X0_shareOfDecent
      simp (disch := omega) only [e12, ↓pu_m1, pu_i0, pu_i1, pu_i2, pu_i3, pu_i4, pu_i5, pu_i6, pu_i7, pu_i8, pu_i9, pu_i10, pu_i11, pu_i12, pu_i13, pu_i14, pu_i15, pu_i16, pu_i17, pu_i18, pu_i19, pu_i20, pu_i21, pu_i22, pu_i30, pu_i33, pu_i34, pu_i36, pu_i40, pu_i42, pu_i48, pu_i49, pu_i50, pu_i57, pu_i59, pu_i60, pu_i62, pu_i86, pu_i94, pu_i99, pu_i103, pu_i106, pu_i108, pu_i109, pu_i111, pu_i113, pu_i119, pu_i126, pu_i999, pu_bnd, pu_nm, pu_gd, pu_bnd2, pu_bxl, pu_bxr, pu_inb, pu_at, pu_put, pu_us, pu_un, pu_Rs, pu_Rn, pu_upS, pu_M1, pu_M2, pu_MS, pu_MM, pu_RR, pu_H1, pu_H2, nI_add, pk_mul, pk_sub, nI_clamp, nI_eq, nI_leI, nI_ltI, pu_in, pu_of, pu_lay, pu_ll, pu_il, pu_h0, pu_h1, pu_h2, pu_nI_mI, pu_mI_nI, pu_mm, pu_nn, pu_nI_le_mI, pu_nI_lt_mI, pu_mI_lt, pu_mI_le, pu_inW, pu_inO, if_pos, if_neg, ↓reduceIte]
    · have u : f_X6_decent M = f_X6_decent_l4 M (999 + 1) (nI 0) (nI 0) := rfl
      rw [u]
      unfold f_X6_decent_l4
      simp (disch := omega) only [w1, ↓pu_m1, pu_i0, pu_i1, pu_i2, pu_i3, pu_i4, pu_i5, pu_i6, pu_i7, pu_i8, pu_i9, pu_i10, pu_i11, pu_i12, pu_i13, pu_i14, pu_i15, pu_i16, pu_i17, pu_i18, pu_i19, pu_i20, pu_i21, pu_i22, pu_i30, pu_i33, pu_i34, pu_i36, pu_i40, pu_i42, pu_i48, pu_i49, pu_i50, pu_i57, pu_i59, pu_i60, pu_i62, pu_i86, pu_i94, pu_i99, pu_i103, pu_i106, pu_i108, pu_i109, pu_i111, pu_i113, pu_i119, pu_i126, pu_i999, pu_bnd, pu_nm, pu_gd, pu_bnd2, pu_bxl, pu_bxr, pu_inb, pu_at, pu_put, pu_us, pu_un, pu_Rs, pu_Rn, pu_upS, pu_M1, pu_M2, pu_MS, pu_MM, pu_RR, pu_H1, pu_H2, nI_add, pk_mul, pk_sub, nI_clamp, nI_eq, nI_leI, nI_ltI, pu_in, pu_of, pu_lay, pu_ll, pu_il, pu_h0, pu_h1, pu_h2, pu_nI_mI, pu_mI_nI, pu_mm, pu_nn, pu_nI_le_mI, pu_nI_lt_mI, pu_mI_lt, pu_mI_le, pu_inW, pu_inO, if_pos, if_neg, ↓reduceIte]
