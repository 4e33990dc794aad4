/-! the pure part: a gate opens, a night ends, a guest comes, a guest leaves, a setting -/
theorem o_take {B n : Nat} {l : Nat → Nat} {K : RK} {M : MS} (h : Rel B n l K (M.1 0)) {c : Nat} (hc : c < 3) (h0 : 0 < l c) : ∃ (x : Nat) (K1 : RK) (v : Nat → Int32), x < n ∧ f_X3_takeFirst K (nI c) = some (nI x, K1) ∧ f_X6_opens M (nI c) = opR (upM M 0 v) (nI c) (nI x) ∧ Rel B n (fun q => if q = c then l c - 1 else l q) K1 v ∧ (∀ k, (119 ≤ k ∨ k = 8) → v k = M.1 0 k) := by
  have hn := h.n10
  have lc := h.2.2.2.1.2.2.1 c hc
  have a9 := h.2.2.2.1.1 c hc
  obtain ⟨x, hx, ex⟩ := h.2.2.2.1.2.1 c hc 0 h0
  have aL := h.2.2.2.2.2.2 c hc
  have ax := aL.2 0 h0
  rw [ex] at ax
  obtain ⟨f, f1, f2⟩ := lp_take hc lc (nI x) (l c - 1) 0 fuelN K (by omega) (by unfold fuelN; omega)
  obtain ⟨v, v1, v2⟩ := lp_open hc (show l c - 1 < 10 by omega) (nI x) (l c - 1) 1 fuelN (upM M 0 (upd (M.1 0) (86 + 11 * c) (nI (l c - 1)))) (by omega) (by omega) (by rw [pu_M1, pu_Rs, pu_us rfl]) (by unfold fuelN; omega)
  rw [pu_MM] at v1
  rw [pu_M1, pu_Rs] at v2
  refine ⟨x, upR (upR K 8 f) 9 (upd (K 9) c (nI (l c - 1))), v, hx, ?_, ?_, ?_, ?_⟩
  · unfold f_X3_takeFirst
    simp (disch := omega) only [a9, f_X3_standingAt, ex, ↓pu_m1, pu_i0, pu_i1, pu_i2, pu_i3, pu_i4, pu_i5, pu_i6, pu_i7, pu_i8, pu_i9, pu_i10, pu_i11, pu_i12, pu_i13, pu_i14, pu_i15, pu_i16, pu_i17, pu_i18, pu_i19, pu_i20, pu_i21, pu_i22, pu_i30, pu_i33, pu_i34, pu_i36, pu_i40, pu_i42, pu_i48, pu_i49, pu_i50, pu_i57, pu_i59, pu_i60, pu_i62, pu_i86, pu_i94, pu_i99, pu_i103, pu_i106, pu_i108, pu_i109, pu_i111, pu_i113, pu_i119, pu_i126, pu_i999, pu_bnd, pu_nm, pu_gd, pu_bnd2, pu_bxl, pu_bxr, pu_inb, pu_at, pu_put, pu_us, pu_un, pu_Rs, pu_Rn, pu_upS, pu_M1, pu_M2, pu_MS, pu_MM, pu_RR, pu_H1, pu_H2, nI_add, pk_mul, pk_sub, nI_clamp, nI_eq, nI_leI, nI_ltI, pu_in, pu_of, pu_lay, pu_ll, pu_il, pu_h0, pu_h1, pu_h2, pu_nI_mI, pu_mI_nI, pu_mm, pu_nn, pu_nI_le_mI, pu_nI_lt_mI, pu_mI_lt, pu_mI_le, pu_inW, pu_inO, if_pos, if_neg, ↓reduceIte]
    exact f1
  · unfold f_X6_opens
    rw [show (86 : Int32) + 11 * nI c = nI (86 + 11 * c) from by rw [pu_i86, pu_i11, pk_mul, nI_add], pu_nm]
    simp (disch := omega) only [aL.1, ax, ↓pu_m1, pu_i0, pu_i1, pu_i2, pu_i3, pu_i4, pu_i5, pu_i6, pu_i7, pu_i8, pu_i9, pu_i10, pu_i11, pu_i12, pu_i13, pu_i14, pu_i15, pu_i16, pu_i17, pu_i18, pu_i19, pu_i20, pu_i21, pu_i22, pu_i30, pu_i33, pu_i34, pu_i36, pu_i40, pu_i42, pu_i48, pu_i49, pu_i50, pu_i57, pu_i59, pu_i60, pu_i62, pu_i86, pu_i94, pu_i99, pu_i103, pu_i106, pu_i108, pu_i109, pu_i111, pu_i113, pu_i119, pu_i126, pu_i999, pu_bnd, pu_nm, pu_gd, pu_bnd2, pu_bxl, pu_bxr, pu_inb, pu_at, pu_put, pu_us, pu_un, pu_Rs, pu_Rn, pu_upS, pu_M1, pu_M2, pu_MS, pu_MM, pu_RR, pu_H1, pu_H2, nI_add, pk_mul, pk_sub, nI_clamp, nI_eq, nI_leI, nI_ltI, pu_in, pu_of, pu_lay, pu_ll, pu_il, pu_h0, pu_h1, pu_h2, pu_nI_mI, pu_mI_nI, pu_mm, pu_nn, pu_nI_le_mI, pu_nI_lt_mI, pu_mI_lt, pu_mI_le, pu_inW, pu_inO, if_pos, if_neg, ↓reduceIte]
    exact v1
  · refine P_take h hc h0 (fun j => by rw [f2 j, Nat.add_zero]) ?_ ?_
    · rw [v2, if_neg (by omega), pu_us rfl]
    · intro j hj
      rw [v2]
      by_cases e : 86 + 11 * c < j ∧ j < 86 + 11 * c + l c
      · rw [if_pos (by omega), if_pos e, pu_un (by omega)]
      · rw [if_neg (by omega), if_neg e, pu_un hj]
  · intro k hk
    rw [v2, if_neg (by omega), pu_un (by omega)]
def ooR (K2 : RK) (r1 a1 : Int32) : Option (Int32 × RK) := bnd (f_X1_has K2 r1) (fun r3 => (if r3 = 0 then some (0, K2) else bnd (f_X0_ellsTooMuch K2 r1 a1) (fun r4 => nm (at_ 6 (K2 10) 3) (fun r5 => bnd (f_X0_leftOfFine K2 r1 (r4 * r5)) (fun r6 => bnd (f_X0_paidByLender K2 r1 r6) (fun r7 => bnd (f_X0_paidByGuest K2 r1 (r4 * r5)) (fun r8 => bnd2 (f_X1_payFromPurse K2 r1 r8) (fun r9 K10 => nm (upS K10 11 1 ((K2 11 1) + r9)) (fun K11 => (if r7 ≤ 0 then f_X0_openOnce_b117 K11 r1 r4 r6 r7 else nm (at_ 10 (K11 4) r1) (fun r12 => bnd2 (f_X1_payFromPurse K11 r12 r7) (fun r13 K14 => nm (upS K14 11 1 ((K11 11 1) + r13)) (fun K15 => f_X0_openOnce_b117 K15 r1 r4 r6 r7)))))))))))))
theorem o_opR {B n : Nat} {l : Nat → Nat} {K : RK} {M : MS} (h : Rel B n l K (M.1 0)) (hB : 360 * B < 2 ^ 30 - 360) {x c : Nat} (hx : x < n) (hc : c < 3) : ∃ (e : Nat) (K2 : RK) (M2 : MS), ooR K (nI x) (nI c) = some (nI e, K2) ∧ opR M (nI c) (nI x) = some (nI e, M2) ∧ Rel (B + 1) n l K2 (M2.1 0) ∧ FQ M M2 := by
  have hn := h.n10
  obtain ⟨e, s3, p, d, f', f, he, hs3, hp, hd, hf, ep, ed, es3, hff, c1, c2, c3, c4, j, hcut⟩ := t_judge h (by omega) hx hc
  subst hff
  have hm : e * s3 ≤ 40 * 9 := Nat.mul_le_mul he hs3
  obtain ⟨y, hy, ey, hlen⟩ := ha_val h (g := x) (left := e * s3 - p) hx (by omega)
  rw [ey] at c4 j
  have h1 := h.mono (show B ≤ B + 1 by omega)
  have e12 := h.1.2.1
  obtain ⟨w0, w1, w2, w3, w4, w5, w6, w7, w8, w9, w10, w11, w12, w13, w14, w15⟩ := h.2.2.2.2.1
  have a := h.2.2.2.2.2.1 x hx
  rw [ep, ed] at a
  obtain ⟨a0, a1, a2, a3, a4, a5, a6⟩ := a
  have hq : d + (e * s3 - p) - y ≤ 360 * (B + 1) := by omega
  have ehas : f_X1_has K (nI x) = some (nI 1) := by
    unfold f_X1_has
    simp (disch := omega) only [e12, ↓pu_m1, pu_i0, pu_i1, pu_i2, pu_i3, pu_i4, pu_i5, pu_i6, pu_i7, pu_i8, pu_i9, pu_i10, pu_i11, pu_i12, pu_i13, pu_i14, pu_i15, pu_i16, pu_i17, pu_i18, pu_i19, pu_i20, pu_i21, pu_i22, pu_i30, pu_i33, pu_i34, pu_i36, pu_i40, pu_i42, pu_i48, pu_i49, pu_i50, pu_i57, pu_i59, pu_i60, pu_i62, pu_i86, pu_i94, pu_i99, pu_i103, pu_i106, pu_i108, pu_i109, pu_i111, pu_i113, pu_i119, pu_i126, pu_i999, pu_bnd, pu_nm, pu_gd, pu_bnd2, pu_bxl, pu_bxr, pu_inb, pu_at, pu_put, pu_us, pu_un, pu_Rs, pu_Rn, pu_upS, pu_M1, pu_M2, pu_MS, pu_MM, pu_RR, pu_H1, pu_H2, nI_add, pk_mul, pk_sub, nI_clamp, nI_eq, nI_leI, nI_ltI, pu_in, pu_of, pu_lay, pu_ll, pu_il, pu_h0, pu_h1, pu_h2, pu_nI_mI, pu_mI_nI, pu_mm, pu_nn, pu_nI_le_mI, pu_nI_lt_mI, pu_mI_lt, pu_mI_le, pu_inW, pu_inO, if_pos, if_neg, ↓reduceIte]
  have e3 : nI d + nI (e * s3 - p) - nI y = nI (d + (e * s3 - p) - y) := by
    rw [nI_add, pk_sub (by omega)]
  rw [e3] at j
  rcases Nat.eq_zero_or_pos e with z | z
  · subst z
    have hy0 : y = 0 := by omega
    subst hy0
    have P := P_r7 (P_r2 (P_s2 (P_r1 h1 hx (show p - f ≤ 999 by omega)) (K 11 1 + nI f)) hx hq) hx (show 1 ≤ 1 by omega)
    simp (disch := omega) only [pu_Rn] at P
    refine ⟨0, _, upM (upM M 2 (upd (upd (upd (upd (upd (M.1 2) 0 (nI 0)) 1 (nI (0 * s3))) 2 (nI f)) 3 (nI (d + (0 * s3 - p) - 0))) 4 (nI 0))) 0 (upd (upd (upd (upd (M.1 0) (16 + 7 * x + 1) (nI (p - f))) 2 (K 11 1 + nI f)) (16 + 7 * x + 2) (nI (d + (0 * s3 - p) - 0))) (16 + 7 * x + 6) (nI 1)), ?_, ?_, P, ?_⟩
    · unfold ooR
      rw [ehas]
      simp (disch := omega) only [c1, es3, c3, c4, c2, f_X1_payFromPurse, ep, f_X0_openOnce_b117, ed, f_X0_openOnce_b162, ↓pu_m1, pu_i0, pu_i1, pu_i2, pu_i3, pu_i4, pu_i5, pu_i6, pu_i7, pu_i8, pu_i9, pu_i10, pu_i11, pu_i12, pu_i13, pu_i14, pu_i15, pu_i16, pu_i17, pu_i18, pu_i19, pu_i20, pu_i21, pu_i22, pu_i30, pu_i33, pu_i34, pu_i36, pu_i40, pu_i42, pu_i48, pu_i49, pu_i50, pu_i57, pu_i59, pu_i60, pu_i62, pu_i86, pu_i94, pu_i99, pu_i103, pu_i106, pu_i108, pu_i109, pu_i111, pu_i113, pu_i119, pu_i126, pu_i999, pu_bnd, pu_nm, pu_gd, pu_bnd2, pu_bxl, pu_bxr, pu_inb, pu_at, pu_put, pu_us, pu_un, pu_Rs, pu_Rn, pu_upS, pu_M1, pu_M2, pu_MS, pu_MM, pu_RR, pu_H1, pu_H2, nI_add, pk_mul, pk_sub, nI_clamp, nI_eq, nI_leI, nI_ltI, pu_in, pu_of, pu_lay, pu_ll, pu_il, pu_h0, pu_h1, pu_h2, pu_nI_mI, pu_mI_nI, pu_mm, pu_nn, pu_nI_le_mI, pu_nI_lt_mI, pu_mI_lt, pu_mI_le, pu_inW, pu_inO, if_pos, if_neg, ↓reduceIte]
    · unfold opR
      simp (disch := omega) only [j, f_X6_paysToChest, a1, w2, f_X6_opens_b202, ↓pu_m1, pu_i0, pu_i1, pu_i2, pu_i3, pu_i4, pu_i5, pu_i6, pu_i7, pu_i8, pu_i9, pu_i10, pu_i11, pu_i12, pu_i13, pu_i14, pu_i15, pu_i16, pu_i17, pu_i18, pu_i19, pu_i20, pu_i21, pu_i22, pu_i30, pu_i33, pu_i34, pu_i36, pu_i40, pu_i42, pu_i48, pu_i49, pu_i50, pu_i57, pu_i59, pu_i60, pu_i62, pu_i86, pu_i94, pu_i99, pu_i103, pu_i106, pu_i108, pu_i109, pu_i111, pu_i113, pu_i119, pu_i126, pu_i999, pu_bnd, pu_nm, pu_gd, pu_bnd2, pu_bxl, pu_bxr, pu_inb, pu_at, pu_put, pu_us, pu_un, pu_Rs, pu_Rn, pu_upS, pu_M1, pu_M2, pu_MS, pu_MM, pu_RR, pu_H1, pu_H2, nI_add, pk_mul, pk_sub, nI_clamp, nI_eq, nI_leI, nI_ltI, pu_in, pu_of, pu_lay, pu_ll, pu_il, pu_h0, pu_h1, pu_h2, pu_nI_mI, pu_mI_nI, pu_mm, pu_nn, pu_nI_le_mI, pu_nI_lt_mI, pu_mI_lt, pu_mI_le, pu_inW, pu_inO, if_pos, if_neg, ↓reduceIte]
    · exact (FQ2 M _).trans (FQ0 (by
        intro k hk
        simp (disch := omega) only [pu_un, pu_M1, pu_Rn]))
  · rcases hcut with hcut | ⟨o, q, ho, ew, eq3, heq, hq40⟩
    · omega
    have b := h.2.2.2.2.2.1 o ho
    rw [eq3] at b
    obtain ⟨b0, b1, b2, b3, b4, b5, b6⟩ := b
    rw [ew] at a4
    by_cases hox : o = x
    · subst hox
      have o4 : K 4 o = mI := (wc_own h.2.2.1 hn ho ew).1
      have hy0 : y = 0 := by
        rcases hlen with ⟨q1, q2⟩ | ⟨o2, q2, h2, h3, h4, h5⟩
        · exact q2
        · rw [o4, pu_mI_nI (by omega)] at h4
          exact absurd h4 (fun q => q)
      subst hy0
      have P := P_r7 (P_s6 (P_s7 (P_s3 (P_r3 (P_r2 (P_s2 (P_r1 h1 hx (show p - f ≤ 999 by omega)) (K 11 1 + nI f)) hx hq) hx (show q - e ≤ 40 by omega)) (K 11 2 + nI e)) (K 11 6 + nI e)) (K 11 5 + nI 1)) hx (show 1 ≤ 1 by omega)
      simp (disch := omega) only [pu_Rn, pu_Rs, pu_un, pu_RR] at P
      have ewc : wc (upR (upR (upR K 1 (upd (K 1) o (nI (p - f)))) 11 (upd (K 11) 1 (K 11 1 + nI f))) 2 (upd (K 2) o (nI (d + (e * s3 - p) - 0)))) o = nI o := ew
      refine ⟨e, _, upM (upM M 2 (upd (upd (upd (upd (upd (M.1 2) 0 (nI e)) 1 (nI (e * s3))) 2 (nI f)) 3 (nI (d + (e * s3 - p) - 0))) 4 (nI 0))) 0 (upd (upd (upd (upd (upd (upd (upd (upd (M.1 0) (16 + 7 * o + 1) (nI (p - f))) 2 (K 11 1 + nI f)) (16 + 7 * o + 2) (nI (d + (e * s3 - p) - 0))) (16 + 7 * o + 3) (nI (q - e))) 3 (K 11 2 + nI e)) 7 (K 11 6 + nI e)) 6 (K 11 5 + nI 1)) (16 + 7 * o + 6) (nI 1)), ?_, ?_, P, ?_⟩
      · unfold ooR
        rw [ehas]
        simp (disch := omega) only [c1, es3, c3, c4, c2, f_X1_payFromPurse, ep, f_X0_openOnce_b117, ed, f_X0_openOnce_b162, t_wc, ewc, f_X0_cutLace, eq3, ↓pu_m1, pu_i0, pu_i1, pu_i2, pu_i3, pu_i4, pu_i5, pu_i6, pu_i7, pu_i8, pu_i9, pu_i10, pu_i11, pu_i12, pu_i13, pu_i14, pu_i15, pu_i16, pu_i17, pu_i18, pu_i19, pu_i20, pu_i21, pu_i22, pu_i30, pu_i33, pu_i34, pu_i36, pu_i40, pu_i42, pu_i48, pu_i49, pu_i50, pu_i57, pu_i59, pu_i60, pu_i62, pu_i86, pu_i94, pu_i99, pu_i103, pu_i106, pu_i108, pu_i109, pu_i111, pu_i113, pu_i119, pu_i126, pu_i999, pu_bnd, pu_nm, pu_gd, pu_bnd2, pu_bxl, pu_bxr, pu_inb, pu_at, pu_put, pu_us, pu_un, pu_Rs, pu_Rn, pu_upS, pu_M1, pu_M2, pu_MS, pu_MM, pu_RR, pu_H1, pu_H2, nI_add, pk_mul, pk_sub, nI_clamp, nI_eq, nI_leI, nI_ltI, pu_in, pu_of, pu_lay, pu_ll, pu_il, pu_h0, pu_h1, pu_h2, pu_nI_mI, pu_mI_nI, pu_mm, pu_nn, pu_nI_le_mI, pu_nI_lt_mI, pu_mI_lt, pu_mI_le, pu_inW, pu_inO, if_pos, if_neg, ↓reduceIte]
      · unfold opR
        simp (disch := omega) only [j, f_X6_paysToChest, a1, w2, f_X6_opens_b202, a4, f_X6_opens_b139, b3, w3, w7, w6, ↓pu_m1, pu_i0, pu_i1, pu_i2, pu_i3, pu_i4, pu_i5, pu_i6, pu_i7, pu_i8, pu_i9, pu_i10, pu_i11, pu_i12, pu_i13, pu_i14, pu_i15, pu_i16, pu_i17, pu_i18, pu_i19, pu_i20, pu_i21, pu_i22, pu_i30, pu_i33, pu_i34, pu_i36, pu_i40, pu_i42, pu_i48, pu_i49, pu_i50, pu_i57, pu_i59, pu_i60, pu_i62, pu_i86, pu_i94, pu_i99, pu_i103, pu_i106, pu_i108, pu_i109, pu_i111, pu_i113, pu_i119, pu_i126, pu_i999, pu_bnd, pu_nm, pu_gd, pu_bnd2, pu_bxl, pu_bxr, pu_inb, pu_at, pu_put, pu_us, pu_un, pu_Rs, pu_Rn, pu_upS, pu_M1, pu_M2, pu_MS, pu_MM, pu_RR, pu_H1, pu_H2, nI_add, pk_mul, pk_sub, nI_clamp, nI_eq, nI_leI, nI_ltI, pu_in, pu_of, pu_lay, pu_ll, pu_il, pu_h0, pu_h1, pu_h2, pu_nI_mI, pu_mI_nI, pu_mm, pu_nn, pu_nI_le_mI, pu_nI_lt_mI, pu_mI_lt, pu_mI_le, pu_inW, pu_inO, if_pos, if_neg, ↓reduceIte]
        congr 3
        funext t
        by_cases z1 : t = 16 + 7 * o + 6
        · simp (disch := omega) only [pu_us, pu_un]
        · by_cases z2 : t = 6
          · simp (disch := omega) only [pu_us, pu_un]
          · by_cases z3 : t = 7
            · simp (disch := omega) only [pu_us, pu_un]
            · by_cases z4 : t = 3
              · simp (disch := omega) only [pu_us, pu_un]
              · by_cases z5 : t = 16 + 7 * o + 3
                · simp (disch := omega) only [pu_us, pu_un]
                · simp (disch := omega) only [pu_un]
      · exact (FQ2 M _).trans (FQ0 (by
          intro k hk
          simp (disch := omega) only [pu_un, pu_M1, pu_Rn]))
    · have o4 : K 4 x = nI o := by
        unfold wc at ew
        rcases (h.2.2.1 x hx).1 with q1 | ⟨o2, g1, g2, g3, g4⟩
        · rw [if_pos q1] at ew
          by_cases q5 : K 5 x = mI
          · rw [if_pos q5] at ew
            exact absurd (pu_eqE (by omega) (by omega) ew).symm hox
          · rw [if_neg q5, pu_mI_nI (by omega)] at ew
            exact absurd ew (fun q => q)
        · rw [g3, if_neg (by rw [pu_nI_mI (by omega)]; exact fun q => q)] at ew
          rw [g3, ew]
      obtain ⟨u, hu, eu, hyu⟩ : ∃ u : Nat, u ≤ 999 ∧ K 1 o = nI u ∧ y ≤ u := by
        rcases hlen with ⟨q1, q2⟩ | ⟨o2, u, h2, h3, h4, h5, h6, h7⟩
        · rw [o4, pu_nI_mI (by omega)] at q1
          exact absurd q1 (fun q => q)
        · rw [o4] at h4
          have := pu_eqE (by omega) (by omega) h4
          subst this
          exact ⟨u, h6, h5, h7⟩
      rw [eu] at b1
      have P := P_r7 (P_s6 (P_s7 (P_s3 (P_r3 (P_r2 (P_s2 (P_r1 (P_s2 (P_r1 h1 hx (show p - f ≤ 999 by omega)) (K 11 1 + nI f)) ho (show u - y ≤ 999 by omega)) (K 11 1 + nI f + nI y)) hx hq) ho (show q - e ≤ 40 by omega)) (K 11 2 + nI e)) (K 11 6 + nI e)) (K 11 5 + nI 1)) hx (show 1 ≤ 1 by omega)
      simp (disch := omega) only [pu_Rn, pu_Rs, pu_un, pu_RR] at P
      refine ⟨e, _, upM (upM M 2 (upd (upd (upd (upd (upd (M.1 2) 0 (nI e)) 1 (nI (e * s3))) 2 (nI f)) 3 (nI (d + (e * s3 - p) - y))) 4 (nI y))) 0 (upd (upd (upd (upd (upd (upd (upd (upd (upd (upd (M.1 0) (16 + 7 * x + 1) (nI (p - f))) 2 (K 11 1 + nI f)) (16 + 7 * o + 1) (nI (u - y))) 2 (K 11 1 + nI f + nI y)) (16 + 7 * x + 2) (nI (d + (e * s3 - p) - y))) (16 + 7 * o + 3) (nI (q - e))) 3 (K 11 2 + nI e)) 7 (K 11 6 + nI e)) 6 (K 11 5 + nI 1)) (16 + 7 * x + 6) (nI 1)), ?_, ?_, P, ?_⟩
      · unfold ooR
        rw [ehas]
        have ewx : ∀ Kx : RK, Kx 4 = K 4 → wc Kx x = nI o := by
          intro Kx hKx
          unfold wc
          rw [hKx, o4, if_neg (by rw [pu_nI_mI (by omega)]; exact fun q => q)]
        rcases Nat.eq_zero_or_pos y with zy | zy
        · subst zy
          simp (disch := omega) only [c1, es3, c3, c4, c2, f_X1_payFromPurse, ep, f_X0_openOnce_b117, ed, f_X0_openOnce_b162, ↓pu_m1, pu_i0, pu_i1, pu_i2, pu_i3, pu_i4, pu_i5, pu_i6, pu_i7, pu_i8, pu_i9, pu_i10, pu_i11, pu_i12, pu_i13, pu_i14, pu_i15, pu_i16, pu_i17, pu_i18, pu_i19, pu_i20, pu_i21, pu_i22, pu_i30, pu_i33, pu_i34, pu_i36, pu_i40, pu_i42, pu_i48, pu_i49, pu_i50, pu_i57, pu_i59, pu_i60, pu_i62, pu_i86, pu_i94, pu_i99, pu_i103, pu_i106, pu_i108, pu_i109, pu_i111, pu_i113, pu_i119, pu_i126, pu_i999, pu_bnd, pu_nm, pu_gd, pu_bnd2, pu_bxl, pu_bxr, pu_inb, pu_at, pu_put, pu_us, pu_un, pu_Rs, pu_Rn, pu_upS, pu_M1, pu_M2, pu_MS, pu_MM, pu_RR, pu_H1, pu_H2, nI_add, pk_mul, pk_sub, nI_clamp, nI_eq, nI_leI, nI_ltI, pu_in, pu_of, pu_lay, pu_ll, pu_il, pu_h0, pu_h1, pu_h2, pu_nI_mI, pu_mI_nI, pu_mm, pu_nn, pu_nI_le_mI, pu_nI_lt_mI, pu_mI_lt, pu_mI_le, pu_inW, pu_inO, if_pos, if_neg, ↓reduceIte]
          rw [t_wc (by omega), ewx _ (by simp (disch := omega) only [pu_Rn])]
          simp (disch := omega) only [f_X0_cutLace, eq3, f_X0_openOnce_b162, ↓pu_m1, pu_i0, pu_i1, pu_i2, pu_i3, pu_i4, pu_i5, pu_i6, pu_i7, pu_i8, pu_i9, pu_i10, pu_i11, pu_i12, pu_i13, pu_i14, pu_i15, pu_i16, pu_i17, pu_i18, pu_i19, pu_i20, pu_i21, pu_i22, pu_i30, pu_i33, pu_i34, pu_i36, pu_i40, pu_i42, pu_i48, pu_i49, pu_i50, pu_i57, pu_i59, pu_i60, pu_i62, pu_i86, pu_i94, pu_i99, pu_i103, pu_i106, pu_i108, pu_i109, pu_i111, pu_i113, pu_i119, pu_i126, pu_i999, pu_bnd, pu_nm, pu_gd, pu_bnd2, pu_bxl, pu_bxr, pu_inb, pu_at, pu_put, pu_us, pu_un, pu_Rs, pu_Rn, pu_upS, pu_M1, pu_M2, pu_MS, pu_MM, pu_RR, pu_H1, pu_H2, nI_add, pk_mul, pk_sub, nI_clamp, nI_eq, nI_leI, nI_ltI, pu_in, pu_of, pu_lay, pu_ll, pu_il, pu_h0, pu_h1, pu_h2, pu_nI_mI, pu_mI_nI, pu_mm, pu_nn, pu_nI_le_mI, pu_nI_lt_mI, pu_mI_lt, pu_mI_le, pu_inW, pu_inO, if_pos, if_neg, ↓reduceIte]
          congr 2
          funext r t
          have eu2 : K 1 o = nI (u - 0) := eu
          by_cases r1 : r = 1
          · subst r1
            simp (disch := omega) only [pu_Rs, pu_Rn]
            by_cases z1 : t = o
            · subst z1
              simp (disch := omega) only [pu_us, pu_un, eu, Nat.sub_zero]
            · simp (disch := omega) only [pu_un]
          · by_cases r2 : r = 11
            · subst r2
              simp (disch := omega) only [pu_Rs, pu_Rn, x_add0]
              by_cases z1 : t = 1
              · simp (disch := omega) only [pu_us, pu_un]
              · by_cases z2 : t = 2
                · simp (disch := omega) only [pu_us, pu_un]
                · by_cases z3 : t = 5
                  · simp (disch := omega) only [pu_us, pu_un]
                  · by_cases z4 : t = 6
                    · simp (disch := omega) only [pu_us, pu_un]
                    · simp (disch := omega) only [pu_un]
            · by_cases r3 : r = 2
              · subst r3
                simp (disch := omega) only [pu_Rs, pu_Rn]
              · by_cases r4 : r = 3
                · subst r4
                  simp (disch := omega) only [pu_Rs, pu_Rn]
                · by_cases r5 : r = 7
                  · subst r5
                    simp (disch := omega) only [pu_Rs, pu_Rn]
                  · simp (disch := omega) only [pu_Rn]
        · simp (disch := omega) only [c1, es3, c3, c4, c2, f_X1_payFromPurse, ep, o4, eu, f_X0_openOnce_b117, ed, f_X0_openOnce_b162, ↓pu_m1, pu_i0, pu_i1, pu_i2, pu_i3, pu_i4, pu_i5, pu_i6, pu_i7, pu_i8, pu_i9, pu_i10, pu_i11, pu_i12, pu_i13, pu_i14, pu_i15, pu_i16, pu_i17, pu_i18, pu_i19, pu_i20, pu_i21, pu_i22, pu_i30, pu_i33, pu_i34, pu_i36, pu_i40, pu_i42, pu_i48, pu_i49, pu_i50, pu_i57, pu_i59, pu_i60, pu_i62, pu_i86, pu_i94, pu_i99, pu_i103, pu_i106, pu_i108, pu_i109, pu_i111, pu_i113, pu_i119, pu_i126, pu_i999, pu_bnd, pu_nm, pu_gd, pu_bnd2, pu_bxl, pu_bxr, pu_inb, pu_at, pu_put, pu_us, pu_un, pu_Rs, pu_Rn, pu_upS, pu_M1, pu_M2, pu_MS, pu_MM, pu_RR, pu_H1, pu_H2, nI_add, pk_mul, pk_sub, nI_clamp, nI_eq, nI_leI, nI_ltI, pu_in, pu_of, pu_lay, pu_ll, pu_il, pu_h0, pu_h1, pu_h2, pu_nI_mI, pu_mI_nI, pu_mm, pu_nn, pu_nI_le_mI, pu_nI_lt_mI, pu_mI_lt, pu_mI_le, pu_inW, pu_inO, if_pos, if_neg, ↓reduceIte]
          rw [t_wc (by omega), ewx _ (by simp (disch := omega) only [pu_Rn])]
          simp (disch := omega) only [f_X0_cutLace, eq3, f_X0_openOnce_b162, ↓pu_m1, pu_i0, pu_i1, pu_i2, pu_i3, pu_i4, pu_i5, pu_i6, pu_i7, pu_i8, pu_i9, pu_i10, pu_i11, pu_i12, pu_i13, pu_i14, pu_i15, pu_i16, pu_i17, pu_i18, pu_i19, pu_i20, pu_i21, pu_i22, pu_i30, pu_i33, pu_i34, pu_i36, pu_i40, pu_i42, pu_i48, pu_i49, pu_i50, pu_i57, pu_i59, pu_i60, pu_i62, pu_i86, pu_i94, pu_i99, pu_i103, pu_i106, pu_i108, pu_i109, pu_i111, pu_i113, pu_i119, pu_i126, pu_i999, pu_bnd, pu_nm, pu_gd, pu_bnd2, pu_bxl, pu_bxr, pu_inb, pu_at, pu_put, pu_us, pu_un, pu_Rs, pu_Rn, pu_upS, pu_M1, pu_M2, pu_MS, pu_MM, pu_RR, pu_H1, pu_H2, nI_add, pk_mul, pk_sub, nI_clamp, nI_eq, nI_leI, nI_ltI, pu_in, pu_of, pu_lay, pu_ll, pu_il, pu_h0, pu_h1, pu_h2, pu_nI_mI, pu_mI_nI, pu_mm, pu_nn, pu_nI_le_mI, pu_nI_lt_mI, pu_mI_lt, pu_mI_le, pu_inW, pu_inO, if_pos, if_neg, ↓reduceIte]
      · unfold opR
        simp (disch := omega) only [j, f_X6_paysToChest, a1, b1, w2, f_X6_opens_b202, a4, f_X6_opens_b139, b3, w3, w7, w6, ↓pu_m1, pu_i0, pu_i1, pu_i2, pu_i3, pu_i4, pu_i5, pu_i6, pu_i7, pu_i8, pu_i9, pu_i10, pu_i11, pu_i12, pu_i13, pu_i14, pu_i15, pu_i16, pu_i17, pu_i18, pu_i19, pu_i20, pu_i21, pu_i22, pu_i30, pu_i33, pu_i34, pu_i36, pu_i40, pu_i42, pu_i48, pu_i49, pu_i50, pu_i57, pu_i59, pu_i60, pu_i62, pu_i86, pu_i94, pu_i99, pu_i103, pu_i106, pu_i108, pu_i109, pu_i111, pu_i113, pu_i119, pu_i126, pu_i999, pu_bnd, pu_nm, pu_gd, pu_bnd2, pu_bxl, pu_bxr, pu_inb, pu_at, pu_put, pu_us, pu_un, pu_Rs, pu_Rn, pu_upS, pu_M1, pu_M2, pu_MS, pu_MM, pu_RR, pu_H1, pu_H2, nI_add, pk_mul, pk_sub, nI_clamp, nI_eq, nI_leI, nI_ltI, pu_in, pu_of, pu_lay, pu_ll, pu_il, pu_h0, pu_h1, pu_h2, pu_nI_mI, pu_mI_nI, pu_mm, pu_nn, pu_nI_le_mI, pu_nI_lt_mI, pu_mI_lt, pu_mI_le, pu_inW, pu_inO, if_pos, if_neg, ↓reduceIte]
        congr 3
        funext t
        by_cases z1 : t = 16 + 7 * x + 6
        · simp (disch := omega) only [pu_us, pu_un]
        · by_cases z2 : t = 6
          · simp (disch := omega) only [pu_us, pu_un]
          · by_cases z3 : t = 7
            · simp (disch := omega) only [pu_us, pu_un]
            · by_cases z4 : t = 3
              · simp (disch := omega) only [pu_us, pu_un]
              · by_cases z5 : t = 16 + 7 * o + 3
                · simp (disch := omega) only [pu_us, pu_un]
                · by_cases z6 : t = 16 + 7 * x + 2
                  · simp (disch := omega) only [pu_us, pu_un]
                  · by_cases z7 : t = 2
                    · simp (disch := omega) only [pu_us, pu_un]
                    · by_cases z8 : t = 16 + 7 * o + 1
                      · simp (disch := omega) only [pu_us, pu_un]
                      · simp (disch := omega) only [pu_un]
      · exact (FQ2 M _).trans (FQ0 (by
          intro k hk
          simp (disch := omega) only [pu_un, pu_M1, pu_Rn]))
theorem o_open {B n : Nat} {l : Nat → Nat} {K : RK} {M : MS} (h : Rel B n l K (M.1 0)) (hB : 360 * B < 2 ^ 30 - 360) {c : Nat} (hc : c < 3) (h0 : 0 < l c) : ∃ (K2 : RK) (M2 : MS) (l2 : Nat → Nat) (r : Int32), f_X0_openOnce K (nI c) = some (r, K2) ∧ f_X6_opens M (nI c) = some (r, M2) ∧ Rel (B + 1) n l2 K2 (M2.1 0) ∧ FQ M M2 := by
  obtain ⟨x, K1, v, hx, t1, t2, h1, hv⟩ := o_take h hc h0
  have h1' : Rel B n (fun q => if q = c then l c - 1 else l q) K1 ((upM M 0 v).1 0) := by
    rw [pu_M1, pu_Rs]
    exact h1
  obtain ⟨e, K2, M2, q1, q2, q3, q4⟩ := o_opR h1' hB hx hc
  refine ⟨K2, M2, _, nI e, ?_, by rw [t2, q2], q3, (FQ0 hv).trans q4⟩
  unfold f_X0_openOnce
  rw [t1, pu_bnd2]
  exact q1
