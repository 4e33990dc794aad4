theorem o_night_l {n : Nat} {B : Nat} {l : Nat → Nat} (k7 : Nat → Int32) : ∀ (k i F F2 F3 : Nat) (K : RK) (M : MS) (x : Int32), i + k = n → k < F → k < F2 → k < F3 → Rel B n l K (M.1 0) → (∀ j, i ≤ j → j < n → K 7 j = k7 j) → ∃ (y : Int32) (K2 : RK) (M2 : MS), f_X5_sumOf_l4 10 k7 F3 (nI n) x (nI i) = some y ∧ f_X1_passNight_l2 F K (nI i) = some K2 ∧ f_X6_nights_l4 F2 M x (nI i) = f_X6_nights_l67 fuelN M2 y (nI 0) ∧ Rel B n l K2 (M2.1 0) ∧ FQ M M2 := by
  intro k
  induction k with
  | zero =>
    intro i F F2 F3 K M x hi hF hF2 hF3 h h7
    obtain ⟨F, rfl⟩ : ∃ q, F = q + 1 := ⟨F - 1, by omega⟩
    obtain ⟨F2, rfl⟩ : ∃ q, F2 = q + 1 := ⟨F2 - 1, by omega⟩
    obtain ⟨F3, rfl⟩ : ∃ q, F3 = q + 1 := ⟨F3 - 1, by omega⟩
    have hn := h.n10
    have e12 := h.1.2.1
    have w1 : M.1 0 1 = nI n := by rw [h.2.2.2.2.1.2.1, h.1.2.1]
    refine ⟨x, K, M, ?_, ?_, ?_, h, FQ.refl M⟩
    · unfold f_X5_sumOf_l4
      simp (disch := omega) only [↓pu_m1, pu_i0, pu_i1, pu_i2, pu_i3, pu_i4, pu_i5, pu_i6, pu_i7, pu_i8, pu_i9, pu_i10, pu_i11, pu_i12, pu_i13, pu_i14, pu_i15, pu_i16, pu_i17, pu_i18, pu_i19, pu_i20, pu_i21, pu_i22, pu_i30, pu_i33, pu_i34, pu_i36, pu_i40, pu_i42, pu_i48, pu_i49, pu_i50, pu_i57, pu_i59, pu_i60, pu_i62, pu_i86, pu_i94, pu_i99, pu_i103, pu_i106, pu_i108, pu_i109, pu_i111, pu_i113, pu_i119, pu_i126, pu_i999, pu_bnd, pu_nm, pu_gd, pu_bnd2, pu_bxl, pu_bxr, pu_inb, pu_at, pu_put, pu_us, pu_un, pu_Rs, pu_Rn, pu_upS, pu_M1, pu_M2, pu_MS, pu_MM, pu_RR, pu_H1, pu_H2, nI_add, pk_mul, pk_sub, nI_clamp, nI_eq, nI_leI, nI_ltI, pu_in, pu_of, pu_lay, pu_ll, pu_il, pu_h0, pu_h1, pu_h2, pu_nI_mI, pu_mI_nI, pu_mm, pu_nn, pu_nI_le_mI, pu_nI_lt_mI, pu_mI_lt, pu_mI_le, pu_inW, pu_inO, if_pos, if_neg, ↓reduceIte]
    · unfold f_X1_passNight_l2
      simp (disch := omega) only [e12, ↓pu_m1, pu_i0, pu_i1, pu_i2, pu_i3, pu_i4, pu_i5, pu_i6, pu_i7, pu_i8, pu_i9, pu_i10, pu_i11, pu_i12, pu_i13, pu_i14, pu_i15, pu_i16, pu_i17, pu_i18, pu_i19, pu_i20, pu_i21, pu_i22, pu_i30, pu_i33, pu_i34, pu_i36, pu_i40, pu_i42, pu_i48, pu_i49, pu_i50, pu_i57, pu_i59, pu_i60, pu_i62, pu_i86, pu_i94, pu_i99, pu_i103, pu_i106, pu_i108, pu_i109, pu_i111, pu_i113, pu_i119, pu_i126, pu_i999, pu_bnd, pu_nm, pu_gd, pu_bnd2, pu_bxl, pu_bxr, pu_inb, pu_at, pu_put, pu_us, pu_un, pu_Rs, pu_Rn, pu_upS, pu_M1, pu_M2, pu_MS, pu_MM, pu_RR, pu_H1, pu_H2, nI_add, pk_mul, pk_sub, nI_clamp, nI_eq, nI_leI, nI_ltI, pu_in, pu_of, pu_lay, pu_ll, pu_il, pu_h0, pu_h1, pu_h2, pu_nI_mI, pu_mI_nI, pu_mm, pu_nn, pu_nI_le_mI, pu_nI_lt_mI, pu_mI_lt, pu_mI_le, pu_inW, pu_inO, if_pos, if_neg, ↓reduceIte]
    · rw [show f_X6_nights_l4 (F2 + 1) M x (nI i) = _ from by unfold f_X6_nights_l4; rfl]
      simp (disch := omega) only [w1, ↓pu_m1, pu_i0, pu_i1, pu_i2, pu_i3, pu_i4, pu_i5, pu_i6, pu_i7, pu_i8, pu_i9, pu_i10, pu_i11, pu_i12, pu_i13, pu_i14, pu_i15, pu_i16, pu_i17, pu_i18, pu_i19, pu_i20, pu_i21, pu_i22, pu_i30, pu_i33, pu_i34, pu_i36, pu_i40, pu_i42, pu_i48, pu_i49, pu_i50, pu_i57, pu_i59, pu_i60, pu_i62, pu_i86, pu_i94, pu_i99, pu_i103, pu_i106, pu_i108, pu_i109, pu_i111, pu_i113, pu_i119, pu_i126, pu_i999, pu_bnd, pu_nm, pu_gd, pu_bnd2, pu_bxl, pu_bxr, pu_inb, pu_at, pu_put, pu_us, pu_un, pu_Rs, pu_Rn, pu_upS, pu_M1, pu_M2, pu_MS, pu_MM, pu_RR, pu_H1, pu_H2, nI_add, pk_mul, pk_sub, nI_clamp, nI_eq, nI_leI, nI_ltI, pu_in, pu_of, pu_lay, pu_ll, pu_il, pu_h0, pu_h1, pu_h2, pu_nI_mI, pu_mI_nI, pu_mm, pu_nn, pu_nI_le_mI, pu_nI_lt_mI, pu_mI_lt, pu_mI_le, pu_inW, pu_inO, if_pos, if_neg, ↓reduceIte]
  | succ k ih =>
    intro i F F2 F3 K M x hi hF hF2 hF3 h h7
    obtain ⟨F, rfl⟩ : ∃ q, F = q + 1 := ⟨F - 1, by omega⟩
    obtain ⟨F2, rfl⟩ : ∃ q, F2 = q + 1 := ⟨F2 - 1, by omega⟩
    obtain ⟨F3, rfl⟩ : ∃ q, F3 = q + 1 := ⟨F3 - 1, by omega⟩
    have hn := h.n10
    have e12 := h.1.2.1
    have w1 : M.1 0 1 = nI n := by rw [h.2.2.2.2.1.2.1, h.1.2.1]
    have hi2 : i < n := by omega
    obtain ⟨r, p, d, c, m, q, hb, hk, a0, a1, a2, a3, a4, a5, a6⟩ := h.gs hi2
    have ek : k7 i = nI q := by rw [← h7 i (by omega) hi2, hk.2.2.2.2.2]
    have P := P_r6 (P_r7 h hi2 (show 0 ≤ 1 by omega)) hi2 (show m - 1 ≤ 9 by omega)
    simp (disch := omega) only [pu_Rn] at P
    have P2 : Rel B n l (upR (upR K 7 (upd (K 7) i (nI 0))) 6 (upd (K 6) i (nI (m - 1)))) ((upM M 0 (upd (upd (M.1 0) (16 + 7 * i + 6) (nI 0)) (16 + 7 * i + 5) (nI (m - 1)))).1 0) := by
      rw [pu_M1, pu_Rs]
      exact P
    obtain ⟨y, K2, M2, q1, q2, q3, q4, q5⟩ := ih (i + 1) F F2 F3 _ _ (x + nI q) (by omega) (by omega) (by omega) (by omega) P2 (fun j h1 h2 => by
      rw [pu_Rn (by omega), pu_Rs, pu_un (by omega)]
      exact h7 j (by omega) h2)
    refine ⟨y, K2, M2, ?_, ?_, ?_, q4, (FQ0 (by
      intro t ht
      simp (disch := omega) only [pu_un])).trans q5⟩
    · unfold f_X5_sumOf_l4
      simp (disch := omega) only [ek, ↓pu_m1, pu_i0, pu_i1, pu_i2, pu_i3, pu_i4, pu_i5, pu_i6, pu_i7, pu_i8, pu_i9, pu_i10, pu_i11, pu_i12, pu_i13, pu_i14, pu_i15, pu_i16, pu_i17, pu_i18, pu_i19, pu_i20, pu_i21, pu_i22, pu_i30, pu_i33, pu_i34, pu_i36, pu_i40, pu_i42, pu_i48, pu_i49, pu_i50, pu_i57, pu_i59, pu_i60, pu_i62, pu_i86, pu_i94, pu_i99, pu_i103, pu_i106, pu_i108, pu_i109, pu_i111, pu_i113, pu_i119, pu_i126, pu_i999, pu_bnd, pu_nm, pu_gd, pu_bnd2, pu_bxl, pu_bxr, pu_inb, pu_at, pu_put, pu_us, pu_un, pu_Rs, pu_Rn, pu_upS, pu_M1, pu_M2, pu_MS, pu_MM, pu_RR, pu_H1, pu_H2, nI_add, pk_mul, pk_sub, nI_clamp, nI_eq, nI_leI, nI_ltI, pu_in, pu_of, pu_lay, pu_ll, pu_il, pu_h0, pu_h1, pu_h2, pu_nI_mI, pu_mI_nI, pu_mm, pu_nn, pu_nI_le_mI, pu_nI_lt_mI, pu_mI_lt, pu_mI_le, pu_inW, pu_inO, if_pos, if_neg, ↓reduceIte]
      exact q1
    · unfold f_X1_passNight_l2
      simp (disch := omega) only [e12, hk.2.2.2.2.1, pu_maxs, ↓pu_m1, pu_i0, pu_i1, pu_i2, pu_i3, pu_i4, pu_i5, pu_i6, pu_i7, pu_i8, pu_i9, pu_i10, pu_i11, pu_i12, pu_i13, pu_i14, pu_i15, pu_i16, pu_i17, pu_i18, pu_i19, pu_i20, pu_i21, pu_i22, pu_i30, pu_i33, pu_i34, pu_i36, pu_i40, pu_i42, pu_i48, pu_i49, pu_i50, pu_i57, pu_i59, pu_i60, pu_i62, pu_i86, pu_i94, pu_i99, pu_i103, pu_i106, pu_i108, pu_i109, pu_i111, pu_i113, pu_i119, pu_i126, pu_i999, pu_bnd, pu_nm, pu_gd, pu_bnd2, pu_bxl, pu_bxr, pu_inb, pu_at, pu_put, pu_us, pu_un, pu_Rs, pu_Rn, pu_upS, pu_M1, pu_M2, pu_MS, pu_MM, pu_RR, pu_H1, pu_H2, nI_add, pk_mul, pk_sub, nI_clamp, nI_eq, nI_leI, nI_ltI, pu_in, pu_of, pu_lay, pu_ll, pu_il, pu_h0, pu_h1, pu_h2, pu_nI_mI, pu_mI_nI, pu_mm, pu_nn, pu_nI_le_mI, pu_nI_lt_mI, pu_mI_lt, pu_mI_le, pu_inW, pu_inO, if_pos, if_neg, ↓reduceIte]
      exact q2
    · rw [show f_X6_nights_l4 (F2 + 1) M x (nI i) = _ from by unfold f_X6_nights_l4; rfl]
      by_cases z : m = 0
      · subst z
        simp (disch := omega) only [w1, a6, a5, f_X6_nights_b56, ↓pu_m1, pu_i0, pu_i1, pu_i2, pu_i3, pu_i4, pu_i5, pu_i6, pu_i7, pu_i8, pu_i9, pu_i10, pu_i11, pu_i12, pu_i13, pu_i14, pu_i15, pu_i16, pu_i17, pu_i18, pu_i19, pu_i20, pu_i21, pu_i22, pu_i30, pu_i33, pu_i34, pu_i36, pu_i40, pu_i42, pu_i48, pu_i49, pu_i50, pu_i57, pu_i59, pu_i60, pu_i62, pu_i86, pu_i94, pu_i99, pu_i103, pu_i106, pu_i108, pu_i109, pu_i111, pu_i113, pu_i119, pu_i126, pu_i999, pu_bnd, pu_nm, pu_gd, pu_bnd2, pu_bxl, pu_bxr, pu_inb, pu_at, pu_put, pu_us, pu_un, pu_Rs, pu_Rn, pu_upS, pu_M1, pu_M2, pu_MS, pu_MM, pu_RR, pu_H1, pu_H2, nI_add, pk_mul, pk_sub, nI_clamp, nI_eq, nI_leI, nI_ltI, pu_in, pu_of, pu_lay, pu_ll, pu_il, pu_h0, pu_h1, pu_h2, pu_nI_mI, pu_mI_nI, pu_mm, pu_nn, pu_nI_le_mI, pu_nI_lt_mI, pu_mI_lt, pu_mI_le, pu_inW, pu_inO, if_pos, if_neg, ↓reduceIte]
        exact q3
      · simp (disch := omega) only [w1, a6, a5, f_X6_nights_b56, ↓pu_m1, pu_i0, pu_i1, pu_i2, pu_i3, pu_i4, pu_i5, pu_i6, pu_i7, pu_i8, pu_i9, pu_i10, pu_i11, pu_i12, pu_i13, pu_i14, pu_i15, pu_i16, pu_i17, pu_i18, pu_i19, pu_i20, pu_i21, pu_i22, pu_i30, pu_i33, pu_i34, pu_i36, pu_i40, pu_i42, pu_i48, pu_i49, pu_i50, pu_i57, pu_i59, pu_i60, pu_i62, pu_i86, pu_i94, pu_i99, pu_i103, pu_i106, pu_i108, pu_i109, pu_i111, pu_i113, pu_i119, pu_i126, pu_i999, pu_bnd, pu_nm, pu_gd, pu_bnd2, pu_bxl, pu_bxr, pu_inb, pu_at, pu_put, pu_us, pu_un, pu_Rs, pu_Rn, pu_upS, pu_M1, pu_M2, pu_MS, pu_MM, pu_RR, pu_H1, pu_H2, nI_add, pk_mul, pk_sub, nI_clamp, nI_eq, nI_leI, nI_ltI, pu_in, pu_of, pu_lay, pu_ll, pu_il, pu_h0, pu_h1, pu_h2, pu_nI_mI, pu_mI_nI, pu_mm, pu_nn, pu_nI_le_mI, pu_nI_lt_mI, pu_mI_lt, pu_mI_le, pu_inW, pu_inO, if_pos, if_neg, ↓reduceIte]
        exact q3
theorem o_night {B n : Nat} {l : Nat → Nat} {K : RK} {M : MS} (h : Rel B n l K (M.1 0)) (hB : 360 * B < 2 ^ 30) : ∃ (K2 : RK) (M2 : MS) (l2 : Nat → Nat) (r : Int32), f_X0_endNight K = some (r, K2) ∧ f_X6_nights M = some (r, M2) ∧ Rel (B + 1) n l2 K2 (M2.1 0) ∧ FQ M M2 := by
  have hn := h.n10
  have e12 := h.1.2.1
  obtain ⟨y, K2, M2, q1, q2, q3, q4, q5⟩ := o_night_l (K 7) n 0 fuelN fuelN fuelN K M 0 (by omega) (by unfold fuelN; omega) (by unfold fuelN; omega) (by unfold fuelN; omega) h (fun j _ _ => rfl)
  obtain ⟨t, ht, et⟩ := q4.1.2.2.1
  have wt : M2.1 0 0 = nI t := by rw [q4.2.2.2.2.1.1, et]
  have P := P_s0 ((P_len0 (P_len0 (P_len0 q4 (show 0 < 3 by omega)) (show 1 < 3 by omega)) (show 2 < 3 by omega)).mono (show B ≤ B + 1 by omega)) (show t + 1 ≤ B + 1 by omega)
  simp (disch := omega) only [pu_Rn, pu_Rs, pu_RR] at P
  refine ⟨upR (upR K2 9 (upd (upd (upd (K2 9) 0 (nI 0)) 1 (nI 0)) 2 (nI 0))) 11 (upd (K2 11) 0 (nI (t + 1))), upM M2 0 (upd (upd (upd (upd (M2.1 0) (86 + 11 * 0) (nI 0)) (86 + 11 * 1) (nI 0)) (86 + 11 * 2) (nI 0)) 0 (nI (t + 1))), _, y, ?_, ?_, P, q5.trans (FQ0 ?_)⟩
  · have q1' : f_X5_sumOf 10 (K 7) (nI n) = some y := q1
    have q2' : f_X1_passNight K = some K2 := q2
    have q3' : f_X3_sendAllAway K2 = some (upR K2 9 (upd (upd (upd (K2 9) 0 (nI 0)) 1 (nI 0)) 2 (nI 0))) := by
      have s : ∀ (F i : Nat) (Kx : RK), i < 3 → f_X3_sendAllAway_l2 (F + 1) Kx (nI i) = f_X3_sendAllAway_l2 F (upR Kx 9 (upd (Kx 9) i (nI 0))) (nI (i + 1)) := by
        intro F i Kx hi
        rw [show f_X3_sendAllAway_l2 (F + 1) Kx (nI i) = _ from by unfold f_X3_sendAllAway_l2; rfl]
        simp (disch := omega) only [↓pu_m1, pu_i0, pu_i1, pu_i2, pu_i3, pu_i4, pu_i5, pu_i6, pu_i7, pu_i8, pu_i9, pu_i10, pu_i11, pu_i12, pu_i13, pu_i14, pu_i15, pu_i16, pu_i17, pu_i18, pu_i19, pu_i20, pu_i21, pu_i22, pu_i30, pu_i33, pu_i34, pu_i36, pu_i40, pu_i42, pu_i48, pu_i49, pu_i50, pu_i57, pu_i59, pu_i60, pu_i62, pu_i86, pu_i94, pu_i99, pu_i103, pu_i106, pu_i108, pu_i109, pu_i111, pu_i113, pu_i119, pu_i126, pu_i999, pu_bnd, pu_nm, pu_gd, pu_bnd2, pu_bxl, pu_bxr, pu_inb, pu_at, pu_put, pu_us, pu_un, pu_Rs, pu_Rn, pu_upS, pu_M1, pu_M2, pu_MS, pu_MM, pu_RR, pu_H1, pu_H2, nI_add, pk_mul, pk_sub, nI_clamp, nI_eq, nI_leI, nI_ltI, pu_in, pu_of, pu_lay, pu_ll, pu_il, pu_h0, pu_h1, pu_h2, pu_nI_mI, pu_mI_nI, pu_mm, pu_nn, pu_nI_le_mI, pu_nI_lt_mI, pu_mI_lt, pu_mI_le, pu_inW, pu_inO, if_pos, if_neg, ↓reduceIte]
      have e : ∀ (F : Nat) (Kx : RK), f_X3_sendAllAway_l2 (F + 1) Kx (nI 3) = some Kx := by
        intro F Kx
        rw [show f_X3_sendAllAway_l2 (F + 1) Kx (nI 3) = _ from by unfold f_X3_sendAllAway_l2; rfl]
        simp (disch := omega) only [↓pu_m1, pu_i0, pu_i1, pu_i2, pu_i3, pu_i4, pu_i5, pu_i6, pu_i7, pu_i8, pu_i9, pu_i10, pu_i11, pu_i12, pu_i13, pu_i14, pu_i15, pu_i16, pu_i17, pu_i18, pu_i19, pu_i20, pu_i21, pu_i22, pu_i30, pu_i33, pu_i34, pu_i36, pu_i40, pu_i42, pu_i48, pu_i49, pu_i50, pu_i57, pu_i59, pu_i60, pu_i62, pu_i86, pu_i94, pu_i99, pu_i103, pu_i106, pu_i108, pu_i109, pu_i111, pu_i113, pu_i119, pu_i126, pu_i999, pu_bnd, pu_nm, pu_gd, pu_bnd2, pu_bxl, pu_bxr, pu_inb, pu_at, pu_put, pu_us, pu_un, pu_Rs, pu_Rn, pu_upS, pu_M1, pu_M2, pu_MS, pu_MM, pu_RR, pu_H1, pu_H2, nI_add, pk_mul, pk_sub, nI_clamp, nI_eq, nI_leI, nI_ltI, pu_in, pu_of, pu_lay, pu_ll, pu_il, pu_h0, pu_h1, pu_h2, pu_nI_mI, pu_mI_nI, pu_mm, pu_nn, pu_nI_le_mI, pu_nI_lt_mI, pu_mI_lt, pu_mI_le, pu_inW, pu_inO, if_pos, if_neg, ↓reduceIte]
      have u := (s 999 0 K2 (by omega)).trans ((s 998 1 _ (by omega)).trans ((s 997 2 _ (by omega)).trans (e 996 _)))
      simp only [pu_RR, pu_Rs] at u
      exact u
    unfold f_X0_endNight
    simp (disch := omega) only [e12, q1', q2', q3', et, ↓pu_m1, pu_i0, pu_i1, pu_i2, pu_i3, pu_i4, pu_i5, pu_i6, pu_i7, pu_i8, pu_i9, pu_i10, pu_i11, pu_i12, pu_i13, pu_i14, pu_i15, pu_i16, pu_i17, pu_i18, pu_i19, pu_i20, pu_i21, pu_i22, pu_i30, pu_i33, pu_i34, pu_i36, pu_i40, pu_i42, pu_i48, pu_i49, pu_i50, pu_i57, pu_i59, pu_i60, pu_i62, pu_i86, pu_i94, pu_i99, pu_i103, pu_i106, pu_i108, pu_i109, pu_i111, pu_i113, pu_i119, pu_i126, pu_i999, pu_bnd, pu_nm, pu_gd, pu_bnd2, pu_bxl, pu_bxr, pu_inb, pu_at, pu_put, pu_us, pu_un, pu_Rs, pu_Rn, pu_upS, pu_M1, pu_M2, pu_MS, pu_MM, pu_RR, pu_H1, pu_H2, nI_add, pk_mul, pk_sub, nI_clamp, nI_eq, nI_leI, nI_ltI, pu_in, pu_of, pu_lay, pu_ll, pu_il, pu_h0, pu_h1, pu_h2, pu_nI_mI, pu_mI_nI, pu_mm, pu_nn, pu_nI_le_mI, pu_nI_lt_mI, pu_mI_lt, pu_mI_le, pu_inW, pu_inO, if_pos, if_neg, ↓reduceIte]
  · have q3' : f_X6_nights M = f_X6_nights_l67 fuelN M2 y (nI 0) := q3
    have s : ∀ (F i : Nat) (Mx : MS), i < 3 → f_X6_nights_l67 (F + 1) Mx y (nI i) = f_X6_nights_l67 F (upM Mx 0 (upd (Mx.1 0) (86 + 11 * i) (nI 0))) y (nI (i + 1)) := by
      intro F i Mx hi
      rw [show f_X6_nights_l67 (F + 1) Mx y (nI i) = _ from by unfold f_X6_nights_l67; rfl]
      simp (disch := omega) only [↓pu_m1, pu_i0, pu_i1, pu_i2, pu_i3, pu_i4, pu_i5, pu_i6, pu_i7, pu_i8, pu_i9, pu_i10, pu_i11, pu_i12, pu_i13, pu_i14, pu_i15, pu_i16, pu_i17, pu_i18, pu_i19, pu_i20, pu_i21, pu_i22, pu_i30, pu_i33, pu_i34, pu_i36, pu_i40, pu_i42, pu_i48, pu_i49, pu_i50, pu_i57, pu_i59, pu_i60, pu_i62, pu_i86, pu_i94, pu_i99, pu_i103, pu_i106, pu_i108, pu_i109, pu_i111, pu_i113, pu_i119, pu_i126, pu_i999, pu_bnd, pu_nm, pu_gd, pu_bnd2, pu_bxl, pu_bxr, pu_inb, pu_at, pu_put, pu_us, pu_un, pu_Rs, pu_Rn, pu_upS, pu_M1, pu_M2, pu_MS, pu_MM, pu_RR, pu_H1, pu_H2, nI_add, pk_mul, pk_sub, nI_clamp, nI_eq, nI_leI, nI_ltI, pu_in, pu_of, pu_lay, pu_ll, pu_il, pu_h0, pu_h1, pu_h2, pu_nI_mI, pu_mI_nI, pu_mm, pu_nn, pu_nI_le_mI, pu_nI_lt_mI, pu_mI_lt, pu_mI_le, pu_inW, pu_inO, if_pos, if_neg, ↓reduceIte]
    have e : ∀ (F : Nat) (Mx : MS), Mx.1 0 0 = nI t → f_X6_nights_l67 (F + 1) Mx y (nI 3) = some (y, upM Mx 0 (upd (Mx.1 0) 0 (nI (t + 1)))) := by
      intro F Mx hx
      rw [show f_X6_nights_l67 (F + 1) Mx y (nI 3) = _ from by unfold f_X6_nights_l67; rfl]
      simp (disch := omega) only [hx, ↓pu_m1, pu_i0, pu_i1, pu_i2, pu_i3, pu_i4, pu_i5, pu_i6, pu_i7, pu_i8, pu_i9, pu_i10, pu_i11, pu_i12, pu_i13, pu_i14, pu_i15, pu_i16, pu_i17, pu_i18, pu_i19, pu_i20, pu_i21, pu_i22, pu_i30, pu_i33, pu_i34, pu_i36, pu_i40, pu_i42, pu_i48, pu_i49, pu_i50, pu_i57, pu_i59, pu_i60, pu_i62, pu_i86, pu_i94, pu_i99, pu_i103, pu_i106, pu_i108, pu_i109, pu_i111, pu_i113, pu_i119, pu_i126, pu_i999, pu_bnd, pu_nm, pu_gd, pu_bnd2, pu_bxl, pu_bxr, pu_inb, pu_at, pu_put, pu_us, pu_un, pu_Rs, pu_Rn, pu_upS, pu_M1, pu_M2, pu_MS, pu_MM, pu_RR, pu_H1, pu_H2, nI_add, pk_mul, pk_sub, nI_clamp, nI_eq, nI_leI, nI_ltI, pu_in, pu_of, pu_lay, pu_ll, pu_il, pu_h0, pu_h1, pu_h2, pu_nI_mI, pu_mI_nI, pu_mm, pu_nn, pu_nI_le_mI, pu_nI_lt_mI, pu_mI_lt, pu_mI_le, pu_inW, pu_inO, if_pos, if_neg, ↓reduceIte]
    have u := (s 999 0 M2 (by omega)).trans ((s 998 1 _ (by omega)).trans ((s 997 2 _ (by omega)).trans (e 996 _ (by
      simp (disch := omega) only [pu_M1, pu_Rs, pu_MM, pu_un]
      exact wt))))
    simp (disch := omega) only [pu_MM, pu_M1, pu_Rs] at u
    rw [q3']
    exact u
  · intro k hk
    simp (disch := omega) only [pu_un]
theorem o_come {B n : Nat} {l : Nat → Nat} {K : RK} {M : MS} (h : Rel B n l K (M.1 0)) (hn10 : n < 10) {r c p : Nat} (hr : r ≤ 4) (hc : c ≤ 40) (hp : p ≤ 99) : ∃ (K2 : RK) (M2 : MS), f_X0_welcome K (nI r) (nI c) (nI p) = some (nI n, K2) ∧ f_X6_come_l85 fuelN M (nI r) (nI c) (nI p) (nI n) (nI 0) = some (nI n, M2) ∧ Rel B (n + 1) l K2 (M2.1 0) ∧ FQ M M2 := by
  have e12 := h.1.2.1
  obtain ⟨f, f1, f2⟩ := lp_come hn10 (nI r) (nI c) (nI p) 7 0 fuelN M (by omega) (by unfold fuelN; omega)
  obtain ⟨w0, w1, w2, w3, w4, w5, w6, w7, w8, w9, w10, w11, w12, w13, w14, w15⟩ := h.2.2.2.2.1
  have h2 := P_s5 (P_s4 h (K 11 3 + nI p)) (K 11 4 + nI c)
  simp (disch := omega) only [pu_Rn, pu_Rs, pu_un, pu_RR] at h2
  have g1 : f 1 = nI n := by rw [f2, if_neg (by omega), w1, e12]
  have g4 : f 4 = K 11 3 := by rw [f2, if_neg (by omega), w4]
  have g5 : f 5 = K 11 4 := by rw [f2, if_neg (by omega), w5]
  have P := P_come (K2 := upR (upR (upR (upR (upR (upR (upR (upR (upR (upR K 11 (upd (upd (K 11) 3 (K 11 3 + nI p)) 4 (K 11 4 + nI c))) 0 (upd (K 0) n (nI r))) 1 (upd (K 1) n (nI p))) 2 (upd (K 2) n (nI 0))) 3 (upd (K 3) n (nI c))) 4 (upd (K 4) n mI)) 5 (upd (K 5) n mI)) 6 (upd (K 6) n (nI 0))) 7 (upd (K 7) n (nI 0))) 12 (upd (K 12) 0 (nI (n + 1)))) (w2 := upd (upd (upd (upd (upd (upd (upd f (16 + 7 * n + 0) (nI r)) (16 + 7 * n + 1) (nI p)) (16 + 7 * n + 3) (nI c)) (16 + 7 * n + 4) (nI n)) 1 (nI (n + 1))) 4 (K 11 3 + nI p)) 5 (K 11 4 + nI c)) h2 hn10 hr hc hp (by simp (disch := omega) only [pu_Rs, pu_Rn]) (by simp (disch := omega) only [pu_Rs, pu_Rn]) (by simp (disch := omega) only [pu_Rs, pu_Rn]) (by simp (disch := omega) only [pu_Rs, pu_Rn]) (by simp (disch := omega) only [pu_Rs, pu_Rn]) (by simp (disch := omega) only [pu_Rs, pu_Rn]) (by simp (disch := omega) only [pu_Rs, pu_Rn]) (by simp (disch := omega) only [pu_Rs, pu_Rn]) (by simp (disch := omega) only [pu_Rs, pu_Rn]) (by simp (disch := omega) only [pu_Rs, pu_Rn]) (by simp (disch := omega) only [pu_Rs, pu_Rn]) (by simp (disch := omega) only [pu_Rs, pu_Rn]) (by simp (disch := omega) only [pu_Rs, pu_us]) (by simp (disch := omega) only [pu_us, pu_un]) (by simp (disch := omega) only [pu_us, pu_un]) (by
      simp (disch := omega) only [pu_un]
      rw [f2, if_pos (by omega)]) (by simp (disch := omega) only [pu_us, pu_un]) (by simp (disch := omega) only [pu_us, pu_un]) (by
      simp (disch := omega) only [pu_un]
      rw [f2, if_pos (by omega)]) (by
      simp (disch := omega) only [pu_un]
      rw [f2, if_pos (by omega)]) (by simp (disch := omega) only [pu_us, pu_un]) (by
      intro j j1 j2
      by_cases z1 : j = 5
      · simp (disch := omega) only [pu_us]
      · by_cases z2 : j = 4
        · simp (disch := omega) only [pu_us, pu_un]
        · simp (disch := omega) only [pu_un]
          rw [f2, if_neg (by omega)])
  refine ⟨_, upM M 0 (upd (upd (upd (upd (upd (upd (upd f (16 + 7 * n + 0) (nI r)) (16 + 7 * n + 1) (nI p)) (16 + 7 * n + 3) (nI c)) (16 + 7 * n + 4) (nI n)) 1 (nI (n + 1))) 4 (K 11 3 + nI p)) 5 (K 11 4 + nI c)), ?_, ?_, P, FQ0 ?_⟩
  · unfold f_X0_welcome f_X1_takeIn
    simp (disch := omega) only [e12, ↓pu_m1, pu_i0, pu_i1, pu_i2, pu_i3, pu_i4, pu_i5, pu_i6, pu_i7, pu_i8, pu_i9, pu_i10, pu_i11, pu_i12, pu_i13, pu_i14, pu_i15, pu_i16, pu_i17, pu_i18, pu_i19, pu_i20, pu_i21, pu_i22, pu_i30, pu_i33, pu_i34, pu_i36, pu_i40, pu_i42, pu_i48, pu_i49, pu_i50, pu_i57, pu_i59, pu_i60, pu_i62, pu_i86, pu_i94, pu_i99, pu_i103, pu_i106, pu_i108, pu_i109, pu_i111, pu_i113, pu_i119, pu_i126, pu_i999, pu_bnd, pu_nm, pu_gd, pu_bnd2, pu_bxl, pu_bxr, pu_inb, pu_at, pu_put, pu_us, pu_un, pu_Rs, pu_Rn, pu_upS, pu_M1, pu_M2, pu_MS, pu_MM, pu_RR, pu_H1, pu_H2, nI_add, pk_mul, pk_sub, nI_clamp, nI_eq, nI_leI, nI_ltI, pu_in, pu_of, pu_lay, pu_ll, pu_il, pu_h0, pu_h1, pu_h2, pu_nI_mI, pu_mI_nI, pu_mm, pu_nn, pu_nI_le_mI, pu_nI_lt_mI, pu_mI_lt, pu_mI_le, pu_inW, pu_inO, if_pos, if_neg, ↓reduceIte]
  · rw [f1]
    unfold coR
    simp (disch := omega) only [g1, g4, g5, ↓pu_m1, pu_i0, pu_i1, pu_i2, pu_i3, pu_i4, pu_i5, pu_i6, pu_i7, pu_i8, pu_i9, pu_i10, pu_i11, pu_i12, pu_i13, pu_i14, pu_i15, pu_i16, pu_i17, pu_i18, pu_i19, pu_i20, pu_i21, pu_i22, pu_i30, pu_i33, pu_i34, pu_i36, pu_i40, pu_i42, pu_i48, pu_i49, pu_i50, pu_i57, pu_i59, pu_i60, pu_i62, pu_i86, pu_i94, pu_i99, pu_i103, pu_i106, pu_i108, pu_i109, pu_i111, pu_i113, pu_i119, pu_i126, pu_i999, pu_bnd, pu_nm, pu_gd, pu_bnd2, pu_bxl, pu_bxr, pu_inb, pu_at, pu_put, pu_us, pu_un, pu_Rs, pu_Rn, pu_upS, pu_M1, pu_M2, pu_MS, pu_MM, pu_RR, pu_H1, pu_H2, nI_add, pk_mul, pk_sub, nI_clamp, nI_eq, nI_leI, nI_ltI, pu_in, pu_of, pu_lay, pu_ll, pu_il, pu_h0, pu_h1, pu_h2, pu_nI_mI, pu_mI_nI, pu_mm, pu_nn, pu_nI_le_mI, pu_nI_lt_mI, pu_mI_lt, pu_mI_le, pu_inW, pu_inO, if_pos, if_neg, ↓reduceIte]
  · intro k hk
    simp (disch := omega) only [pu_un]
    rw [f2, if_neg (by omega)]
def lvR (M : MS) (x1 : Int32) : Option (Int32 × MS) := bnd (f_X6_of M x1 2) (fun r4 => gd (inb 4 952) (nm (M.1 0 (4 : Int32).toNatClampNeg) (fun v5 => bnd (f_X6_of M x1 1) (fun r6 => gd (inb 4 952) (nm (upM M 0 (upd (M.1 0) (4 : Int32).toNatClampNeg (v5 - r6))) (fun M7 => gd (inb 5 952) (nm (M7.1 0 (5 : Int32).toNatClampNeg) (fun v8 => bnd (f_X6_of M7 x1 3) (fun r9 => gd (inb 5 952) (nm (upM M7 0 (upd (M7.1 0) (5 : Int32).toNatClampNeg (v8 - r9))) (fun M10 => gd (inb 1 952) (nm (M10.1 0 (1 : Int32).toNatClampNeg) (fun v11 => gd (inb 1 952) (nm (upM M10 0 (upd (M10.1 0) (1 : Int32).toNatClampNeg (v11 - 1))) (fun M12 => f_X6_leave_l138 fuelN M12 x1 r4 (7 * x1))))))))))))))))
theorem o_takeOut {n g : Nat} (hn : n ≤ 10) (hg : g < n) {K : RK} (h12 : K 12 0 = nI n) : ∃ K2 : RK, f_X1_takeOut K (nI g) = some K2 ∧ (∀ r, r < 8 → r ≠ 4 → r ≠ 5 → ∀ j, j < n - 1 → K2 r j = K r (sg g j)) ∧ (∀ j, j < n - 1 → K2 4 j = nw g (K 4 (sg g j))) ∧ (∀ j, j < n - 1 → K2 5 j = nw g (K 5 (sg g j))) ∧ K2 8 = K 8 ∧ K2 9 = K 9 ∧ K2 10 = K 10 ∧ K2 11 = K 11 ∧ K2 12 0 = nI (n - 1) := by
  obtain ⟨f0, a0, b0⟩ := lp_gap0 (rw := 0) hn (by omega) hg h12
  obtain ⟨f1, a1, b1⟩ := lp_gap0 (rw := 1) (K := upR K 0 f0) hn (by omega) hg (by simp (disch := omega) only [pu_Rn]; exact h12)
  obtain ⟨f2, a2, b2⟩ := lp_gap0 (rw := 2) (K := upR (upR K 0 f0) 1 f1) hn (by omega) hg (by simp (disch := omega) only [pu_Rn]; exact h12)
  obtain ⟨f3, a3, b3⟩ := lp_gap0 (rw := 3) (K := upR (upR (upR K 0 f0) 1 f1) 2 f2) hn (by omega) hg (by simp (disch := omega) only [pu_Rn]; exact h12)
  obtain ⟨f4, a4, b4⟩ := lp_gap0 (rw := 4) (K := upR (upR (upR (upR K 0 f0) 1 f1) 2 f2) 3 f3) hn (by omega) hg (by simp (disch := omega) only [pu_Rn]; exact h12)
  obtain ⟨f5, a5, b5⟩ := lp_gap0 (rw := 5) (K := upR (upR (upR (upR (upR K 0 f0) 1 f1) 2 f2) 3 f3) 4 f4) hn (by omega) hg (by simp (disch := omega) only [pu_Rn]; exact h12)
  obtain ⟨f6, a6, b6⟩ := lp_gap0 (rw := 6) (K := upR (upR (upR (upR (upR (upR K 0 f0) 1 f1) 2 f2) 3 f3) 4 f4) 5 f5) hn (by omega) hg (by simp (disch := omega) only [pu_Rn]; exact h12)
  obtain ⟨f7, a7, b7⟩ := lp_gap0 (rw := 7) (K := upR (upR (upR (upR (upR (upR (upR K 0 f0) 1 f1) 2 f2) 3 f3) 4 f4) 5 f5) 6 f6) hn (by omega) hg (by simp (disch := omega) only [pu_Rn]; exact h12)
  simp (disch := omega) only [pu_Rn] at b1 b2 b3 b4 b5 b6 b7
  have e12 : upR (upR (upR (upR (upR (upR (upR (upR (upR K 0 f0) 1 f1) 2 f2) 3 f3) 4 f4) 5 f5) 6 f6) 7 f7) 12 (upd (K 12) 0 (nI (n - 1))) 12 0 = nI (n - 1) := by
    rw [pu_Rs, pu_us rfl]
  obtain ⟨u4, u5, c1, c2, c3⟩ := lp_ren (g := g) (show n - 1 < 10 by omega) (n - 1) 0 fuelN _ (by omega) e12 (by unfold fuelN; omega)
  simp (disch := omega) only [pu_Rn, pu_Rs] at c2 c3
  refine ⟨upR (upR (upR (upR (upR (upR (upR (upR (upR (upR (upR K 0 f0) 1 f1) 2 f2) 3 f3) 4 f4) 5 f5) 6 f6) 7 f7) 12 (upd (K 12) 0 (nI (n - 1)))) 4 u4) 5 u5, ?_, ?_, ?_, ?_, ?_, ?_, ?_, ?_, ?_⟩
  · unfold f_X1_takeOut
    rw [a0, pu_bnd, a1, pu_bnd, a2, pu_bnd, a3, pu_bnd, a4, pu_bnd, a5, pu_bnd, a6, pu_bnd, a7, pu_bnd]
    simp (disch := omega) only [h12, ↓pu_m1, pu_i0, pu_i1, pu_i2, pu_i3, pu_i4, pu_i5, pu_i6, pu_i7, pu_i8, pu_i9, pu_i10, pu_i11, pu_i12, pu_i13, pu_i14, pu_i15, pu_i16, pu_i17, pu_i18, pu_i19, pu_i20, pu_i21, pu_i22, pu_i30, pu_i33, pu_i34, pu_i36, pu_i40, pu_i42, pu_i48, pu_i49, pu_i50, pu_i57, pu_i59, pu_i60, pu_i62, pu_i86, pu_i94, pu_i99, pu_i103, pu_i106, pu_i108, pu_i109, pu_i111, pu_i113, pu_i119, pu_i126, pu_i999, pu_bnd, pu_nm, pu_gd, pu_bnd2, pu_bxl, pu_bxr, pu_inb, pu_at, pu_put, pu_us, pu_un, pu_Rs, pu_Rn, pu_upS, pu_M1, pu_M2, pu_MS, pu_MM, pu_RR, pu_H1, pu_H2, nI_add, pk_mul, pk_sub, nI_clamp, nI_eq, nI_leI, nI_ltI, pu_in, pu_of, pu_lay, pu_ll, pu_il, pu_h0, pu_h1, pu_h2, pu_nI_mI, pu_mI_nI, pu_mm, pu_nn, pu_nI_le_mI, pu_nI_lt_mI, pu_mI_lt, pu_mI_le, pu_inW, pu_inO, if_pos, if_neg, ↓reduceIte]
    exact c1
  · intro r hr r4 r5 j hj
    rcases (show r = 0 ∨ r = 1 ∨ r = 2 ∨ r = 3 ∨ r = 6 ∨ r = 7 by omega) with e | e | e | e | e | e <;> subst e <;> simp (disch := omega) only [pu_Rn, pu_Rs]
    · exact b0 j hj
    · exact b1 j hj
    · exact b2 j hj
    · exact b3 j hj
    · exact b6 j hj
    · exact b7 j hj
  · intro j hj
    simp (disch := omega) only [pu_Rn, pu_Rs]
    rw [c2, if_pos (by omega), b4 j hj]
  · intro j hj
    simp (disch := omega) only [pu_Rn, pu_Rs]
    rw [c3, if_pos (by omega), b5 j hj]
  · simp (disch := omega) only [pu_Rn]
  · simp (disch := omega) only [pu_Rn]
  · simp (disch := omega) only [pu_Rn]
  · simp (disch := omega) only [pu_Rn]
  · simp (disch := omega) only [pu_Rn, pu_Rs, pu_us]
theorem o_leave {B n : Nat} {l : Nat → Nat} {K : RK} {M : MS} (h : Rel B n l K (M.1 0)) {g : Nat} (hg : g < n) (o4 : K 4 g = mI) (o5 : K 5 g = mI) (hno : nInL l K g) : ∃ (K2 : RK) (M2 : MS) (r : Int32), f_X0_letGo K (nI g) = some (r, K2) ∧ lvR M (nI g) = some (r, M2) ∧ Rel B (n - 1) l K2 (M2.1 0) ∧ FQ M M2 := by
  have hn := h.n10
  have e12 := h.1.2.1
  obtain ⟨w0, w1, w2, w3, w4, w5, w6, w7, w8, w9, w10, w11, w12, w13, w14, w15⟩ := h.2.2.2.2.1
  obtain ⟨a0, a1, a2, a3, a4, a5, a6⟩ := h.2.2.2.2.2.1 g hg
  have h2 := P_s5 (P_s4 h (K 11 3 - K 1 g)) (K 11 4 - K 3 g)
  simp (disch := omega) only [pu_Rn, pu_Rs, pu_un, pu_RR] at h2
  have e12' : upR K 11 (upd (upd (K 11) 3 (K 11 3 - K 1 g)) 4 (K 11 4 - K 3 g)) 12 0 = nI n := by
    rw [pu_Rn (by omega)]
    exact e12
  obtain ⟨K6, t1, t2, t3, t4, t5, t6, t7, t8, t9⟩ := o_takeOut hn hg e12'
  obtain ⟨f, u1, u2⟩ := lp_renl (g := g) 30 0 fuelN K6 (by omega) (by unfold fuelN; omega)
  obtain ⟨v1, p1, p2⟩ := lp_lv1 (g := g) (show n - 1 < 10 by omega) (K 2 g) (7 * (n - 1) - 7 * g) (7 * g) fuelN (upM M 0 (upd (upd (upd (M.1 0) 4 (K 11 3 - K 1 g)) 5 (K 11 4 - K 3 g)) 1 (nI (n - 1)))) (by omega) (by rw [pu_M1, pu_Rs, pu_us rfl]) (by unfold fuelN; omega)
  rw [pu_MM] at p1
  rw [pu_M1, pu_Rs] at p2
  obtain ⟨v2, p3, p4⟩ := lp_lv2 (g := g) (show n - 1 < 10 by omega) (K 2 g) (n - 1) 0 fuelN (upM M 0 v1) (by omega) (by rw [pu_M1, pu_Rs, p2, if_neg (by omega), pu_us rfl]) (by unfold fuelN; omega)
  rw [pu_MM] at p3
  rw [pu_M1, pu_Rs] at p4
  obtain ⟨v3, p5, p6⟩ := lp_lv3 (g := g) (K 2 g) 33 0 fuelN (upM M 0 v2) (by omega) (by unfold fuelN; omega)
  rw [pu_MM] at p5
  rw [pu_M1, pu_Rs] at p6
  have hsg : ∀ j, j < n - 1 → (sg g j = j ∧ j < g) ∨ (sg g j = j + 1 ∧ g ≤ j) := by
    intro j hj
    unfold sg
    by_cases q : j < g
    · left
      exact ⟨by rw [if_pos q], q⟩
    · right
      exact ⟨by rw [if_neg q], by omega⟩
  have P := P_leave (K2 := upR K6 8 f) (w2 := v3) h2 hg (by rw [pu_Rn (by omega)]; exact o4) (by rw [pu_Rn (by omega)]; exact o5) (by
      intro c hc k hk
      rw [pu_Rn (by omega)]
      exact hno c hc k hk) (by
      intro r hr r4 r5 j hj
      rw [pu_Rn (by omega)]
      exact t2 r hr r4 r5 j hj) (by
      intro j hj
      rw [pu_Rn (by omega)]
      exact t3 j hj) (by
      intro j hj
      rw [pu_Rn (by omega)]
      exact t4 j hj) (by
      intro j hj
      rw [pu_Rs, u2, if_pos (by omega), t5]) (by
      rw [pu_Rn (by omega)]
      exact t6) (by
      rw [pu_Rn (by omega)]
      exact t7) (by
      rw [pu_Rn (by omega)]
      exact t8) (by
      rw [pu_Rn (by omega)]
      exact t9) (by
      rw [p6, if_neg (by omega), p4, if_neg (by omega), p2, if_neg (by omega), pu_us rfl]) (by
      intro j j1 j2
      rw [p6, if_neg (by omega), p4, if_neg (by omega), p2, if_neg (by omega), pu_un j1]) (by
      intro j hj q hq q4
      rw [p6, if_neg (by omega), p4, if_neg (by omega), p2]
      rcases hsg j hj with ⟨s1, s2⟩ | ⟨s1, s2⟩
      · rw [if_neg (by omega), s1]
        simp (disch := omega) only [pu_un]
      · rw [if_pos (by omega), s1, show 16 + 7 * (j + 1) + q = 16 + 7 * j + q + 7 from by omega]
        simp (disch := omega) only [pu_un]) (by
      intro j hj
      rw [p6, if_neg (by omega), p4, if_pos (by omega), p2]
      rcases hsg j hj with ⟨s1, s2⟩ | ⟨s1, s2⟩
      · rw [if_neg (by omega), s1]
        simp (disch := omega) only [pu_un]
      · rw [if_pos (by omega), s1, show 16 + 7 * (j + 1) + 4 = 16 + 7 * j + 4 + 7 from by omega]
        simp (disch := omega) only [pu_un]) (by
      intro d hd
      rw [p6, if_neg (by omega), p4, if_neg (by omega), p2, if_neg (by omega)]
      simp (disch := omega) only [pu_un]) (by
      intro d hd k hk
      rw [p6, if_pos (by omega), p4, if_neg (by omega), p2, if_neg (by omega)]
      simp (disch := omega) only [pu_un])
  refine ⟨upR K6 8 f, upM M 0 v3, K 2 g, ?_, ?_, ?_, FQ0 ?_⟩
  · have u1' : f_X3_renumberWithout K6 (nI g) = some (upR K6 8 f) := u1
    unfold f_X0_letGo
    simp (disch := omega) only [t1, u1', ↓pu_m1, pu_i0, pu_i1, pu_i2, pu_i3, pu_i4, pu_i5, pu_i6, pu_i7, pu_i8, pu_i9, pu_i10, pu_i11, pu_i12, pu_i13, pu_i14, pu_i15, pu_i16, pu_i17, pu_i18, pu_i19, pu_i20, pu_i21, pu_i22, pu_i30, pu_i33, pu_i34, pu_i36, pu_i40, pu_i42, pu_i48, pu_i49, pu_i50, pu_i57, pu_i59, pu_i60, pu_i62, pu_i86, pu_i94, pu_i99, pu_i103, pu_i106, pu_i108, pu_i109, pu_i111, pu_i113, pu_i119, pu_i126, pu_i999, pu_bnd, pu_nm, pu_gd, pu_bnd2, pu_bxl, pu_bxr, pu_inb, pu_at, pu_put, pu_us, pu_un, pu_Rs, pu_Rn, pu_upS, pu_M1, pu_M2, pu_MS, pu_MM, pu_RR, pu_H1, pu_H2, nI_add, pk_mul, pk_sub, nI_clamp, nI_eq, nI_leI, nI_ltI, pu_in, pu_of, pu_lay, pu_ll, pu_il, pu_h0, pu_h1, pu_h2, pu_nI_mI, pu_mI_nI, pu_mm, pu_nn, pu_nI_le_mI, pu_nI_lt_mI, pu_mI_lt, pu_mI_le, pu_inW, pu_inO, if_pos, if_neg, ↓reduceIte]
  · unfold lvR
    simp (disch := omega) only [a2, a1, a3, w4, w5, w1, e12, ↓pu_m1, pu_i0, pu_i1, pu_i2, pu_i3, pu_i4, pu_i5, pu_i6, pu_i7, pu_i8, pu_i9, pu_i10, pu_i11, pu_i12, pu_i13, pu_i14, pu_i15, pu_i16, pu_i17, pu_i18, pu_i19, pu_i20, pu_i21, pu_i22, pu_i30, pu_i33, pu_i34, pu_i36, pu_i40, pu_i42, pu_i48, pu_i49, pu_i50, pu_i57, pu_i59, pu_i60, pu_i62, pu_i86, pu_i94, pu_i99, pu_i103, pu_i106, pu_i108, pu_i109, pu_i111, pu_i113, pu_i119, pu_i126, pu_i999, pu_bnd, pu_nm, pu_gd, pu_bnd2, pu_bxl, pu_bxr, pu_inb, pu_at, pu_put, pu_us, pu_un, pu_Rs, pu_Rn, pu_upS, pu_M1, pu_M2, pu_MS, pu_MM, pu_RR, pu_H1, pu_H2, nI_add, pk_mul, pk_sub, nI_clamp, nI_eq, nI_leI, nI_ltI, pu_in, pu_of, pu_lay, pu_ll, pu_il, pu_h0, pu_h1, pu_h2, pu_nI_mI, pu_mI_nI, pu_mm, pu_nn, pu_nI_le_mI, pu_nI_lt_mI, pu_mI_lt, pu_mI_le, pu_inW, pu_inO, if_pos, if_neg, ↓reduceIte]
    rw [p1]
    rw [show f_X6_leave_l184 fuelN (upM M 0 v1) (nI g) (K 2 g) (nI 0) = _ from p3]
    exact p5
  · rw [pu_M1, pu_Rs]
    exact P
  · intro k hk
    rw [p6, if_neg (by omega), p4, if_neg (by omega), p2, if_neg (by omega)]
    simp (disch := omega) only [pu_un]
theorem o_note {B n : Nat} {l : Nat → Nat} {K : RK} {M : MS} (h : Rel B n l K (M.1 0)) (x y : Int32) : ∃ (K2 : RK), f_X0_noteStop K x y = some K2 ∧ Rel B n l K2 (upd (upd (M.1 0) 8 x) 9 y) ∧ (K2 11 7 = x) := by
  have P := P_s9 (P_s8 h x) y
  simp (disch := omega) only [pu_Rn, pu_Rs, pu_RR] at P
  refine ⟨_, ?_, P, ?_⟩
  · unfold f_X0_noteStop
    simp (disch := omega) only [↓pu_m1, pu_i0, pu_i1, pu_i2, pu_i3, pu_i4, pu_i5, pu_i6, pu_i7, pu_i8, pu_i9, pu_i10, pu_i11, pu_i12, pu_i13, pu_i14, pu_i15, pu_i16, pu_i17, pu_i18, pu_i19, pu_i20, pu_i21, pu_i22, pu_i30, pu_i33, pu_i34, pu_i36, pu_i40, pu_i42, pu_i48, pu_i49, pu_i50, pu_i57, pu_i59, pu_i60, pu_i62, pu_i86, pu_i94, pu_i99, pu_i103, pu_i106, pu_i108, pu_i109, pu_i111, pu_i113, pu_i119, pu_i126, pu_i999, pu_bnd, pu_nm, pu_gd, pu_bnd2, pu_bxl, pu_bxr, pu_inb, pu_at, pu_put, pu_us, pu_un, pu_Rs, pu_Rn, pu_upS, pu_M1, pu_M2, pu_MS, pu_MM, pu_RR, pu_H1, pu_H2, nI_add, pk_mul, pk_sub, nI_clamp, nI_eq, nI_leI, nI_ltI, pu_in, pu_of, pu_lay, pu_ll, pu_il, pu_h0, pu_h1, pu_h2, pu_nI_mI, pu_mI_nI, pu_mm, pu_nn, pu_nI_le_mI, pu_nI_lt_mI, pu_mI_lt, pu_mI_le, pu_inW, pu_inO, if_pos, if_neg, ↓reduceIte]
  · simp (disch := omega) only [pu_Rs, pu_us, pu_un]
