/-! the pure part of p33: a gate opens; a night ends -/
def OF (n x c e db : Nat) (K K2 : RK) : Prop := (K2 0 = K 0 ∧ K2 4 = K 4 ∧ K2 5 = K 5 ∧ K2 6 = K 6 ∧ K2 8 = K 8 ∧ K2 9 = K 9 ∧ K2 10 = K 10) ∧ K2 7 = upd (K 7) x (nI 1) ∧ K2 2 = upd (K 2) x (nI db) ∧ (K2 11 0 = K 11 0 ∧ K2 11 3 = K 11 3 ∧ K2 11 4 = K 11 4 ∧ K2 11 6 = K 11 6 + nI e ∧ K2 11 2 = K 11 2 + nI e) ∧ sI (K2 1) n + K2 11 1 = sI (K 1) n + K 11 1 ∧ sI (K2 3) n = sI (K 3) n - nI e ∧ (e = 0 ∧ K2 3 = K 3 ∨ ∃ o : Nat, o < n ∧ wc K x = nI o ∧ K2 3 = upd (K 3) o (nI (nk K 3 o - e)) ∧ e ≤ nk K 3 o)
theorem r_op {B n : Nat} {l : Nat → Nat} {K : RK} (h : Ra B n l K) (hB : 360 * B < 2 ^ 30 - 360) {x c : Nat} (hx : x < n) (hc : c < 3) : ∃ K2 : RK, ooR K (nI x) (nI c) = some (nI (eN K x c), K2) ∧ Ra (B + 1) n l K2 ∧ OF n x c (eN K x c) (dbN K x c) K K2 := by
  have hn := h.n10
  have hB2 : 360 * B < 2 ^ 30 := by omega
  obtain ⟨c1, he⟩ := e_ells h hB2 hx hc
  obtain ⟨-, -, -, -, ⟨es3, hs3⟩, -⟩ := h.t hB2
  obtain ⟨-, ⟨ep, hp⟩, ⟨ed, hd⟩, -⟩ := h.k hB2 hx
  have hm : eN K x c * nk K 10 3 ≤ 40 * 9 := Nat.mul_le_mul he hs3
  obtain ⟨c2, hf⟩ := e_paid h hB2 hx (q := eN K x c * nk K 10 3) (by omega)
  have c3 := e_left h hB2 hx (q := eN K x c * nk K 10 3) (by omega)
  obtain ⟨c4, hy, hlen⟩ := e_lend h hB2 hx (q := eN K x c * nk K 10 3 - nk K 1 x) (by omega)
  have hcut : eN K x c = 0 ∨ ∃ o : Nat, o < n ∧ wc K x = nI o ∧ eN K x c ≤ nk K 3 o := by
    by_cases m : mkd K x
    · left
      unfold eN
      rw [if_pos m]
    · obtain ⟨-, -, w⟩ := e_wl h hx
      rcases w with ⟨w1, w2⟩ | ⟨o, w1, w2, w3⟩
      · left
        unfold eN
        rw [if_neg m, w2]
        omega
      · right
        refine ⟨o, w1, w2, ?_⟩
        unfold eN
        rw [if_neg m, w3]
        omega
  have hdb : dbN K x c = nk K 2 x + (eN K x c * nk K 10 3 - nk K 1 x) - hN K x (eN K x c * nk K 10 3 - nk K 1 x) := rfl
  rw [hdb]
  clear hdb
  generalize eN K x c = e at *
  generalize nk K 10 3 = s3 at *
  generalize hN K x (e * s3 - nk K 1 x) = y at *
  generalize pN K x (e * s3) = f at *
  obtain ⟨w, hr⟩ := h.rel
  have h1 := hr.mono (show B ≤ B + 1 by omega)
  have e12 := h.e12
  have ehas : f_X1_has K (nI x) = some (nI 1) := by
    unfold f_X1_has
    simp (disch := omega) only [e12, ↓pu_m1, pu_i0, pu_i1, pu_i2, pu_i3, pu_i4, pu_i5, pu_i6, pu_i7, pu_i8, pu_i9, pu_i10, pu_i11, pu_i12, pu_i13, pu_i14, pu_i15, pu_i16, pu_i17, pu_i18, pu_i19, pu_i20, pu_i21, pu_i22, pu_i23, pu_i30, pu_i33, pu_i34, pu_i35, pu_i36, pu_i40, pu_i41, pu_i42, pu_i45, pu_i46, pu_i48, pu_i49, pu_i50, pu_i57, pu_i59, pu_i60, pu_i62, pu_i66, pu_i86, pu_i94, pu_i99, pu_i100, pu_i103, pu_i106, pu_i108, pu_i109, pu_i111, pu_i113, pu_i119, pu_i126, pu_i999, pu_bnd, pu_nm, pu_gd, pu_bnd2, pu_inb, pu_at, pu_put, pu_us, pu_un, pu_Rs, pu_Rn, pu_upS, pu_RR, nI_add, pk_mul, pk_sub, nI_clamp, nI_eq, nI_leI, nI_ltI, pu_nI_mI, pu_mI_nI, pu_mm, pu_nn, pu_nI_le_mI, pu_nI_lt_mI, pu_mI_lt, pu_mI_le, pu_inW, pu_inO, if_pos, if_neg, ↓reduceIte, pu_bnd3]
  have hq : nk K 2 x + (e * s3 - nk K 1 x) - y ≤ 360 * (B + 1) := by omega
  have e3 : nI (nk K 2 x) + nI (e * s3 - nk K 1 x) - nI y = nI (nk K 2 x + (e * s3 - nk K 1 x) - y) := by rw [nI_add, pk_sub (by omega)]
  have epf : nI (nk K 1 x - f) = K 1 x - nI f := by
    conv => rhs; rw [ep]
    rw [pk_sub hf]
  have s1 := sI_upd (f := K 1) (g := x) (v := nI (nk K 1 x - f)) n hx
  rw [epf] at s1
  rcases Nat.eq_zero_or_pos e with z | z
  · subst z
    have hy0 : y = 0 := by omega
    subst hy0
    have P := P_r7 (P_r2 (P_s2 (P_r1 h1 hx (show nk K 1 x - f ≤ 999 by omega)) (K 11 1 + nI f)) hx hq) hx (show 1 ≤ 1 by omega)
    simp (disch := omega) only [pu_Rn] at P
    refine ⟨_, ?_, Ra.of P, ⟨?_, ?_, ?_, ?_, ?_, ?_, ?_⟩⟩
    · unfold ooR
      rw [ehas]
      simp (disch := omega) only [c1, es3, c3, c4, c2, f_X1_payFromPurse, ep, f_X0_openOnce_b117, ed, f_X0_openOnce_b162, ↓pu_m1, pu_i0, pu_i1, pu_i2, pu_i3, pu_i4, pu_i5, pu_i6, pu_i7, pu_i8, pu_i9, pu_i10, pu_i11, pu_i12, pu_i13, pu_i14, pu_i15, pu_i16, pu_i17, pu_i18, pu_i19, pu_i20, pu_i21, pu_i22, pu_i23, pu_i30, pu_i33, pu_i34, pu_i35, pu_i36, pu_i40, pu_i41, pu_i42, pu_i45, pu_i46, pu_i48, pu_i49, pu_i50, pu_i57, pu_i59, pu_i60, pu_i62, pu_i66, pu_i86, pu_i94, pu_i99, pu_i100, pu_i103, pu_i106, pu_i108, pu_i109, pu_i111, pu_i113, pu_i119, pu_i126, pu_i999, pu_bnd, pu_nm, pu_gd, pu_bnd2, pu_inb, pu_at, pu_put, pu_us, pu_un, pu_Rs, pu_Rn, pu_upS, pu_RR, nI_add, pk_mul, pk_sub, nI_clamp, nI_eq, nI_leI, nI_ltI, pu_nI_mI, pu_mI_nI, pu_mm, pu_nn, pu_nI_le_mI, pu_nI_lt_mI, pu_mI_lt, pu_mI_le, pu_inW, pu_inO, if_pos, if_neg, ↓reduceIte, pu_bnd3]
    · simp (disch := omega) only [pu_Rs, pu_Rn]
      exact ⟨trivial, trivial, trivial, trivial, trivial, trivial, trivial⟩
    · simp (disch := omega) only [pu_Rs, pu_Rn]
    · simp (disch := omega) only [pu_Rs, pu_Rn]
    · simp (disch := omega) only [pu_Rs, pu_Rn, pu_us, pu_un, x_add0]
      exact ⟨trivial, trivial, trivial, trivial, trivial⟩
    · simp (disch := omega) only [pu_Rs, pu_Rn, pu_us, pu_un]
      rw [epf, s1]
      grind
    · simp (disch := omega) only [pu_Rs, pu_Rn, x_sub0]
    · left
      simp (disch := omega) only [pu_Rs, pu_Rn]
      exact ⟨trivial, trivial⟩
  · rcases hcut with hcut | ⟨o, ho, ew, heq⟩
    · omega
    obtain ⟨-, ⟨eo1, ho1⟩, -, ⟨eq3, hq40⟩, -⟩ := h.k hB2 ho
    have s3' := sI_upd (f := K 3) (g := o) (v := nI (nk K 3 o - e)) n ho
    have ecut : nI (nk K 3 o - e) = K 3 o - nI e := by
      conv => rhs; rw [eq3]
      rw [pk_sub heq]
    have s3e : sI (upd (K 3) o (nI (nk K 3 o - e))) n = sI (K 3) n - nI e := by
      rw [s3', ecut]
      grind
    by_cases hox : o = x
    · subst hox
      have o4 : K 4 o = mI := (wc_own h.c hn ho ew).1
      have hy0 : y = 0 := by
        rcases hlen with ⟨q1, q2⟩ | ⟨o2, h2, h3, h4, h5⟩
        · exact q2
        · rw [o4] at h4
          exact absurd h4.symm (nI_nm (by omega))
      subst hy0
      have P := P_r7 (P_s6 (P_s7 (P_s3 (P_r3 (P_r2 (P_s2 (P_r1 h1 hx (show nk K 1 o - f ≤ 999 by omega)) (K 11 1 + nI f)) hx hq) hx (show nk K 3 o - e ≤ 40 by omega)) (K 11 2 + nI e)) (K 11 6 + nI e)) (K 11 5 + nI 1)) hx (show 1 ≤ 1 by omega)
      simp (disch := omega) only [pu_Rn, pu_Rs, pu_un, pu_RR] at P
      have ewc : wc (upR (upR (upR K 1 (upd (K 1) o (nI (nk K 1 o - f)))) 11 (upd (K 11) 1 (K 11 1 + nI f))) 2 (upd (K 2) o (nI (nk K 2 o + (e * s3 - nk K 1 o) - 0)))) o = nI o := ew
      refine ⟨_, ?_, Ra.of P, ⟨?_, ?_, ?_, ?_, ?_, ?_, ?_⟩⟩
      · unfold ooR
        rw [ehas]
        simp (disch := omega) only [c1, es3, c3, c4, c2, f_X1_payFromPurse, ep, f_X0_openOnce_b117, ed, f_X0_openOnce_b162, t_wc, ewc, f_X0_cutLace, eq3, ↓pu_m1, pu_i0, pu_i1, pu_i2, pu_i3, pu_i4, pu_i5, pu_i6, pu_i7, pu_i8, pu_i9, pu_i10, pu_i11, pu_i12, pu_i13, pu_i14, pu_i15, pu_i16, pu_i17, pu_i18, pu_i19, pu_i20, pu_i21, pu_i22, pu_i23, pu_i30, pu_i33, pu_i34, pu_i35, pu_i36, pu_i40, pu_i41, pu_i42, pu_i45, pu_i46, pu_i48, pu_i49, pu_i50, pu_i57, pu_i59, pu_i60, pu_i62, pu_i66, pu_i86, pu_i94, pu_i99, pu_i100, pu_i103, pu_i106, pu_i108, pu_i109, pu_i111, pu_i113, pu_i119, pu_i126, pu_i999, pu_bnd, pu_nm, pu_gd, pu_bnd2, pu_inb, pu_at, pu_put, pu_us, pu_un, pu_Rs, pu_Rn, pu_upS, pu_RR, nI_add, pk_mul, pk_sub, nI_clamp, nI_eq, nI_leI, nI_ltI, pu_nI_mI, pu_mI_nI, pu_mm, pu_nn, pu_nI_le_mI, pu_nI_lt_mI, pu_mI_lt, pu_mI_le, pu_inW, pu_inO, if_pos, if_neg, ↓reduceIte, pu_bnd3]
      · simp (disch := omega) only [pu_Rs, pu_Rn]
        exact ⟨trivial, trivial, trivial, trivial, trivial, trivial, trivial⟩
      · simp (disch := omega) only [pu_Rs, pu_Rn]
      · simp (disch := omega) only [pu_Rs, pu_Rn]
      · simp (disch := omega) only [pu_Rs, pu_Rn, pu_us, pu_un]
        exact ⟨trivial, trivial, trivial, trivial, trivial⟩
      · simp (disch := omega) only [pu_Rs, pu_Rn, pu_us, pu_un]
        rw [epf, s1]
        grind
      · simp (disch := omega) only [pu_Rs, pu_Rn]
        exact s3e
      · right
        refine ⟨o, ho, ew, ?_, heq⟩
        simp (disch := omega) only [pu_Rs, pu_Rn]
    · have o4 : K 4 x = nI o := by
        rcases wc_three h hx with ⟨q1, q2, q3⟩ | ⟨q1, b, b1, b2, b3, b4, b5⟩ | ⟨o', o1, o2, o3, o4, o5⟩
        · rw [ew] at q3
          exact absurd (pu_eqE (by omega) (by omega) q3) hox
        · rw [ew] at b5
          exact absurd b5 (nI_nm (by omega))
        · rw [ew] at o5
          rw [o3, o5]
      have hyu : y ≤ nk K 1 o := by
        rcases hlen with ⟨q1, q2⟩ | ⟨o2, h2, h3, h4, h5⟩
        · omega
        · rw [o4] at h4
          have := pu_eqE (by omega) (by omega) h4
          subst this
          exact h5
      have ewx : ∀ Kx : RK, Kx 4 = K 4 → wc Kx x = nI o := by
        intro Kx hKx
        unfold wc
        rw [hKx, o4, if_neg (nI_nm (by omega))]
      rcases Nat.eq_zero_or_pos y with zy | zy
      · subst zy
        have P := P_r7 (P_s6 (P_s7 (P_s3 (P_r3 (P_r2 (P_s2 (P_r1 h1 hx (show nk K 1 x - f ≤ 999 by omega)) (K 11 1 + nI f)) hx hq) ho (show nk K 3 o - e ≤ 40 by omega)) (K 11 2 + nI e)) (K 11 6 + nI e)) (K 11 5 + nI 1)) hx (show 1 ≤ 1 by omega)
        simp (disch := omega) only [pu_Rn, pu_Rs, pu_un, pu_RR] at P
        refine ⟨_, ?_, Ra.of P, ⟨?_, ?_, ?_, ?_, ?_, ?_, ?_⟩⟩
        · unfold ooR
          rw [ehas]
          simp (disch := omega) only [c1, es3, c3, c4, c2, f_X1_payFromPurse, ep, f_X0_openOnce_b117, ed, f_X0_openOnce_b162, ↓pu_m1, pu_i0, pu_i1, pu_i2, pu_i3, pu_i4, pu_i5, pu_i6, pu_i7, pu_i8, pu_i9, pu_i10, pu_i11, pu_i12, pu_i13, pu_i14, pu_i15, pu_i16, pu_i17, pu_i18, pu_i19, pu_i20, pu_i21, pu_i22, pu_i23, pu_i30, pu_i33, pu_i34, pu_i35, pu_i36, pu_i40, pu_i41, pu_i42, pu_i45, pu_i46, pu_i48, pu_i49, pu_i50, pu_i57, pu_i59, pu_i60, pu_i62, pu_i66, pu_i86, pu_i94, pu_i99, pu_i100, pu_i103, pu_i106, pu_i108, pu_i109, pu_i111, pu_i113, pu_i119, pu_i126, pu_i999, pu_bnd, pu_nm, pu_gd, pu_bnd2, pu_inb, pu_at, pu_put, pu_us, pu_un, pu_Rs, pu_Rn, pu_upS, pu_RR, nI_add, pk_mul, pk_sub, nI_clamp, nI_eq, nI_leI, nI_ltI, pu_nI_mI, pu_mI_nI, pu_mm, pu_nn, pu_nI_le_mI, pu_nI_lt_mI, pu_mI_lt, pu_mI_le, pu_inW, pu_inO, if_pos, if_neg, ↓reduceIte, pu_bnd3]
          rw [t_wc (by omega), ewx _ (by simp (disch := omega) only [pu_Rn])]
          simp (disch := omega) only [f_X0_cutLace, eq3, f_X0_openOnce_b162, ↓pu_m1, pu_i0, pu_i1, pu_i2, pu_i3, pu_i4, pu_i5, pu_i6, pu_i7, pu_i8, pu_i9, pu_i10, pu_i11, pu_i12, pu_i13, pu_i14, pu_i15, pu_i16, pu_i17, pu_i18, pu_i19, pu_i20, pu_i21, pu_i22, pu_i23, pu_i30, pu_i33, pu_i34, pu_i35, pu_i36, pu_i40, pu_i41, pu_i42, pu_i45, pu_i46, pu_i48, pu_i49, pu_i50, pu_i57, pu_i59, pu_i60, pu_i62, pu_i66, pu_i86, pu_i94, pu_i99, pu_i100, pu_i103, pu_i106, pu_i108, pu_i109, pu_i111, pu_i113, pu_i119, pu_i126, pu_i999, pu_bnd, pu_nm, pu_gd, pu_bnd2, pu_inb, pu_at, pu_put, pu_us, pu_un, pu_Rs, pu_Rn, pu_upS, pu_RR, nI_add, pk_mul, pk_sub, nI_clamp, nI_eq, nI_leI, nI_ltI, pu_nI_mI, pu_mI_nI, pu_mm, pu_nn, pu_nI_le_mI, pu_nI_lt_mI, pu_mI_lt, pu_mI_le, pu_inW, pu_inO, if_pos, if_neg, ↓reduceIte, pu_bnd3]
        · simp (disch := omega) only [pu_Rs, pu_Rn]
          exact ⟨trivial, trivial, trivial, trivial, trivial, trivial, trivial⟩
        · simp (disch := omega) only [pu_Rs, pu_Rn]
        · simp (disch := omega) only [pu_Rs, pu_Rn]
        · simp (disch := omega) only [pu_Rs, pu_Rn, pu_us, pu_un]
          exact ⟨trivial, trivial, trivial, trivial, trivial⟩
        · simp (disch := omega) only [pu_Rs, pu_Rn, pu_us, pu_un]
          rw [epf, s1]
          grind
        · simp (disch := omega) only [pu_Rs, pu_Rn]
          exact s3e
        · right
          refine ⟨o, ho, ew, ?_, heq⟩
          simp (disch := omega) only [pu_Rs, pu_Rn]
      · have P := P_r7 (P_s6 (P_s7 (P_s3 (P_r3 (P_r2 (P_s2 (P_r1 (P_s2 (P_r1 h1 hx (show nk K 1 x - f ≤ 999 by omega)) (K 11 1 + nI f)) ho (show nk K 1 o - y ≤ 999 by omega)) (K 11 1 + nI f + nI y)) hx hq) ho (show nk K 3 o - e ≤ 40 by omega)) (K 11 2 + nI e)) (K 11 6 + nI e)) (K 11 5 + nI 1)) hx (show 1 ≤ 1 by omega)
        simp (disch := omega) only [pu_Rn, pu_Rs, pu_un, pu_us, pu_RR] at P
        have eoy : nI (nk K 1 o - y) = K 1 o - nI y := by
          conv => rhs; rw [eo1]
          rw [pk_sub hyu]
        have s2 := sI_upd (f := upd (K 1) x (nI (nk K 1 x - f))) (g := o) (v := nI (nk K 1 o - y)) n ho
        rw [pu_un (show o ≠ x from hox)] at s2
        refine ⟨_, ?_, Ra.of P, ⟨?_, ?_, ?_, ?_, ?_, ?_, ?_⟩⟩
        · unfold ooR
          rw [ehas]
          simp (disch := omega) only [c1, es3, c3, c4, c2, f_X1_payFromPurse, ep, o4, eo1, f_X0_openOnce_b117, ed, f_X0_openOnce_b162, ↓pu_m1, pu_i0, pu_i1, pu_i2, pu_i3, pu_i4, pu_i5, pu_i6, pu_i7, pu_i8, pu_i9, pu_i10, pu_i11, pu_i12, pu_i13, pu_i14, pu_i15, pu_i16, pu_i17, pu_i18, pu_i19, pu_i20, pu_i21, pu_i22, pu_i23, pu_i30, pu_i33, pu_i34, pu_i35, pu_i36, pu_i40, pu_i41, pu_i42, pu_i45, pu_i46, pu_i48, pu_i49, pu_i50, pu_i57, pu_i59, pu_i60, pu_i62, pu_i66, pu_i86, pu_i94, pu_i99, pu_i100, pu_i103, pu_i106, pu_i108, pu_i109, pu_i111, pu_i113, pu_i119, pu_i126, pu_i999, pu_bnd, pu_nm, pu_gd, pu_bnd2, pu_inb, pu_at, pu_put, pu_us, pu_un, pu_Rs, pu_Rn, pu_upS, pu_RR, nI_add, pk_mul, pk_sub, nI_clamp, nI_eq, nI_leI, nI_ltI, pu_nI_mI, pu_mI_nI, pu_mm, pu_nn, pu_nI_le_mI, pu_nI_lt_mI, pu_mI_lt, pu_mI_le, pu_inW, pu_inO, if_pos, if_neg, ↓reduceIte, pu_bnd3]
          rw [t_wc (by omega), ewx _ (by simp (disch := omega) only [pu_Rn])]
          simp (disch := omega) only [f_X0_cutLace, eq3, f_X0_openOnce_b162, ↓pu_m1, pu_i0, pu_i1, pu_i2, pu_i3, pu_i4, pu_i5, pu_i6, pu_i7, pu_i8, pu_i9, pu_i10, pu_i11, pu_i12, pu_i13, pu_i14, pu_i15, pu_i16, pu_i17, pu_i18, pu_i19, pu_i20, pu_i21, pu_i22, pu_i23, pu_i30, pu_i33, pu_i34, pu_i35, pu_i36, pu_i40, pu_i41, pu_i42, pu_i45, pu_i46, pu_i48, pu_i49, pu_i50, pu_i57, pu_i59, pu_i60, pu_i62, pu_i66, pu_i86, pu_i94, pu_i99, pu_i100, pu_i103, pu_i106, pu_i108, pu_i109, pu_i111, pu_i113, pu_i119, pu_i126, pu_i999, pu_bnd, pu_nm, pu_gd, pu_bnd2, pu_inb, pu_at, pu_put, pu_us, pu_un, pu_Rs, pu_Rn, pu_upS, pu_RR, nI_add, pk_mul, pk_sub, nI_clamp, nI_eq, nI_leI, nI_ltI, pu_nI_mI, pu_mI_nI, pu_mm, pu_nn, pu_nI_le_mI, pu_nI_lt_mI, pu_mI_lt, pu_mI_le, pu_inW, pu_inO, if_pos, if_neg, ↓reduceIte, pu_bnd3]
        · simp (disch := omega) only [pu_Rs, pu_Rn]
          exact ⟨trivial, trivial, trivial, trivial, trivial, trivial, trivial⟩
        · simp (disch := omega) only [pu_Rs, pu_Rn]
        · simp (disch := omega) only [pu_Rs, pu_Rn]
        · simp (disch := omega) only [pu_Rs, pu_Rn, pu_us, pu_un]
          exact ⟨trivial, trivial, trivial, trivial, trivial⟩
        · simp (disch := omega) only [pu_Rs, pu_Rn, pu_us, pu_un]
          rw [epf] at s2 ⊢
          rw [s2, eoy, s1]
          grind
        · simp (disch := omega) only [pu_Rs, pu_Rn]
          exact s3e
        · right
          refine ⟨o, ho, ew, ?_, heq⟩
          simp (disch := omega) only [pu_Rs, pu_Rn]
/-- the first of a line goes to its gate -/
theorem i_open {B n : Nat} {l : Nat → Nat} {K : RK} (h : Inv B n l K) (hB : 360 * B < 2 ^ 30 - 360) {c : Nat} (hc : c < 3) (h0 : 0 < l c) : ∃ (x : Nat) (K2 : RK) (l2 : Nat → Nat), x < n ∧ K 8 (c * 10) = nI x ∧ f_X0_openOnce K (nI c) = some (nI (eN K x c), K2) ∧ Inv (B + 1) n l2 K2 ∧ K2 7 x = nI 1 ∧ K2 2 x = nI (dbN K x c) ∧ K2 11 6 = K 11 6 + nI (eN K x c) ∧ sI (K2 3) n = sI (K 3) n - nI (eN K x c) ∧ (0 < nk K2 6 x ∨ wlN K2 x ≤ alN K2 c (nk K2 0 x) (nk K2 11 0)) := by
  obtain ⟨hR, ⟨t1, t2, t3⟩, hI⟩ := h
  have hn := hR.n10
  have lc := hR.l.2.2.1 c hc
  have a9 := hR.l.1 c hc
  obtain ⟨x, hx, ex0⟩ := hR.l.2.1 c hc 0 h0
  have ex : K 8 (c * 10) = nI x := ex0
  obtain ⟨w, hr⟩ := hR.rel
  obtain ⟨f, f1, f2⟩ := lp_take hc lc (nI x) (l c - 1) 0 fuelN K (by omega) (by unfold fuelN; omega)
  have tk : f_X3_takeFirst K (nI c) = some (nI x, upR (upR K 8 f) 9 (upd (K 9) c (nI (l c - 1)))) := by
    unfold f_X3_takeFirst
    simp (disch := omega) only [a9, f_X3_standingAt, ex0, ↓pu_m1, pu_i0, pu_i1, pu_i2, pu_i3, pu_i4, pu_i5, pu_i6, pu_i7, pu_i8, pu_i9, pu_i10, pu_i11, pu_i12, pu_i13, pu_i14, pu_i15, pu_i16, pu_i17, pu_i18, pu_i19, pu_i20, pu_i21, pu_i22, pu_i23, pu_i30, pu_i33, pu_i34, pu_i35, pu_i36, pu_i40, pu_i41, pu_i42, pu_i45, pu_i46, pu_i48, pu_i49, pu_i50, pu_i57, pu_i59, pu_i60, pu_i62, pu_i66, pu_i86, pu_i94, pu_i99, pu_i100, pu_i103, pu_i106, pu_i108, pu_i109, pu_i111, pu_i113, pu_i119, pu_i126, pu_i999, pu_bnd, pu_nm, pu_gd, pu_bnd2, pu_inb, pu_at, pu_put, pu_us, pu_un, pu_Rs, pu_Rn, pu_upS, pu_RR, nI_add, pk_mul, pk_sub, nI_clamp, nI_eq, nI_leI, nI_ltI, pu_nI_mI, pu_mI_nI, pu_mm, pu_nn, pu_nI_le_mI, pu_nI_lt_mI, pu_mI_lt, pu_mI_le, pu_inW, pu_inO, if_pos, if_neg, ↓reduceIte, pu_bnd3]
    exact f1
  have P1 : Ra B n (fun q => if q = c then l c - 1 else l q) (upR (upR K 8 f) 9 (upd (K 9) c (nI (l c - 1)))) := by
    have P := P_take (f := f) (v := fun j => if j = 86 + 11 * c then nI (l c - 1) else if 86 + 11 * c < j ∧ j < 86 + 11 * c + l c then w (j + 1) else w j) hr hc h0 (fun j => by rw [f2 j, Nat.add_zero]) (by
      show (if 86 + 11 * c = 86 + 11 * c then nI (l c - 1) else _) = _
      rw [if_pos rfl]) (by
      intro j hj
      show (if j = 86 + 11 * c then nI (l c - 1) else _) = _
      rw [if_neg hj])
    exact Ra.of P
  obtain ⟨K2, q1, q2, ⟨⟨k0, k4, k5, k6, k8, k9, k10⟩, k7, kd, ⟨k110, k113, k114, k116, k112⟩, ks, kc, kl⟩⟩ := r_op P1 hB hx hc
  have ee : eN (upR (upR K 8 f) 9 (upd (K 9) c (nI (l c - 1)))) x c = eN K x c := rfl
  have edb : dbN (upR (upR K 8 f) 9 (upd (K 9) c (nI (l c - 1)))) x c = dbN K x c := rfl
  rw [ee] at q1 kc kl k116 k112
  rw [edb] at kd
  simp (disch := omega) only [pu_Rs, pu_Rn] at k0 k4 k5 k6 k8 k9 k10 k7 kd k110 k113 k114 k116 k112 ks kc kl
  refine ⟨x, K2, _, hx, ex, ?_, ⟨q2, ⟨?_, ?_, ?_⟩, ?_⟩, ?_, ?_, k116, kc, ?_⟩
  · unfold f_X0_openOnce
    rw [tk, pu_bnd2]
    exact q1
  · rw [k113, ks, t1]
  · rw [k114, kc, k112, t2]
    grind
  · rw [k112, k116, t3]
  · intro d hd k hk z hz e
    have ld := hR.l.2.2.1 d hd
    replace hk : k < (if d = c then l c - 1 else l d) := hk
    have key : ∃ j, j < l d ∧ K2 8 (d * 10 + k) = K 8 (d * 10 + j) ∧ (d = c → 0 < j) := by
      rw [k8, f2]
      by_cases q : d = c
      · subst q
        rw [if_pos rfl] at hk
        refine ⟨k + 1, by omega, ?_, fun _ => by omega⟩
        rw [if_pos (by omega), Nat.add_assoc]
      · rw [if_neg q] at hk
        refine ⟨k, hk, ?_, fun q2 => absurd q2 q⟩
        rw [if_neg (by omega)]
    obtain ⟨j, j1, j2, j3⟩ := key
    rw [j2] at e
    rw [k7]
    by_cases q : z = x
    · subst q
      have u := hR.l.2.2.2 d hd j j1 c hc 0 h0 (by rw [e, Nat.add_zero, ex])
      have := j3 u.1
      omega
    · rw [pu_un q]
      exact hI d hd j j1 z hz e
  · rw [k7, pu_us rfl]
  · rw [kd, pu_us rfl]
  · have hB2 : 360 * B < 2 ^ 30 := by omega
    have ek : ∀ r g : Nat, K2 r = K r → nk K2 r g = nk K r g := by
      intro r g e
      unfold nk
      rw [e]
    have et : nk K2 11 0 = nk K 11 0 := by
      unfold nk
      rw [k110]
    have ea : alN K2 c (nk K2 0 x) (nk K2 11 0) = alN K c (nk K 0 x) (nk K 11 0) := by
      unfold alN
      rw [ek 10 0 k10, ek 10 1 k10, ek 10 2 k10, ek 0 x k0, et]
    have ewc : wc K2 x = wc K x := by
      unfold wc
      rw [k4, k5]
    rw [ea, ek 6 x k6]
    by_cases m : mkd K x
    · left
      exact m.2.1
    · right
      have een : eN K x c = wlN K x - alN K c (nk K 0 x) (nk K 11 0) := by
        unfold eN
        rw [if_neg m]
      rcases kl with ⟨z, k3⟩ | ⟨o, o1, o2, o3, o4⟩
      · have ew : wlN K2 x = wlN K x := by
          unfold wlN
          rw [ewc, ek 3 _ k3]
        rw [ew]
        omega
      · have o2' : wc K x = nI o := o2
        have ew : wlN K x = nk K 3 o := by
          unfold wlN
          rw [o2', if_neg (nI_nm (by omega)), nI_clamp (by omega)]
        have ew2 : wlN K2 x = nk K 3 o - eN K x c := by
          unfold wlN
          rw [ewc, o2', if_neg (nI_nm (by omega)), nI_clamp (by omega)]
          obtain ⟨-, -, -, ⟨-, b3⟩, -⟩ := hR.k hB2 o1
          show (K2 3 o).toNatClampNeg = _
          rw [o3, pu_us rfl]
          exact nI_clamp (show nk K 3 o - eN K x c < 2 ^ 31 by omega)
        rw [ew2]
        omega
theorem lp_pass {n : Nat} (hn : n ≤ 10) : ∀ (k i F : Nat) (K : RK), i + k = n → K 12 0 = nI n → (∀ g, g < n → rg (K 6 g) 9) → k < F → ∃ f6 f7 : Nat → Int32, f_X1_passNight_l2 F K (nI i) = some (upR (upR K 7 f7) 6 f6) ∧ (∀ j, f7 j = if i ≤ j ∧ j < n then nI 0 else K 7 j) ∧ (∀ j, f6 j = if i ≤ j ∧ j < n then nI (nk K 6 j - 1) else K 6 j) := by
  intro k
  induction k with
  | zero =>
    intro i F K hi e12 h6 hF
    obtain ⟨F, rfl⟩ : ∃ q, F = q + 1 := ⟨F - 1, by omega⟩
    refine ⟨K 6, K 7, ?_, ?_, ?_⟩
    · unfold f_X1_passNight_l2
      simp (disch := omega) only [e12, ↓pu_m1, pu_i0, pu_i1, pu_i2, pu_i3, pu_i4, pu_i5, pu_i6, pu_i7, pu_i8, pu_i9, pu_i10, pu_i11, pu_i12, pu_i13, pu_i14, pu_i15, pu_i16, pu_i17, pu_i18, pu_i19, pu_i20, pu_i21, pu_i22, pu_i23, pu_i30, pu_i33, pu_i34, pu_i35, pu_i36, pu_i40, pu_i41, pu_i42, pu_i45, pu_i46, pu_i48, pu_i49, pu_i50, pu_i57, pu_i59, pu_i60, pu_i62, pu_i66, pu_i86, pu_i94, pu_i99, pu_i100, pu_i103, pu_i106, pu_i108, pu_i109, pu_i111, pu_i113, pu_i119, pu_i126, pu_i999, pu_bnd, pu_nm, pu_gd, pu_bnd2, pu_inb, pu_at, pu_put, pu_us, pu_un, pu_Rs, pu_Rn, pu_upS, pu_RR, nI_add, pk_mul, pk_sub, nI_clamp, nI_eq, nI_leI, nI_ltI, pu_nI_mI, pu_mI_nI, pu_mm, pu_nn, pu_nI_le_mI, pu_nI_lt_mI, pu_mI_lt, pu_mI_le, pu_inW, pu_inO, if_pos, if_neg, ↓reduceIte, pu_bnd3]
      rw [upR_self, upR_self]
    · intro j
      rw [if_neg (by omega)]
    · intro j
      rw [if_neg (by omega)]
  | succ k ih =>
    intro i F K hi e12 h6 hF
    obtain ⟨F, rfl⟩ : ∃ q, F = q + 1 := ⟨F - 1, by omega⟩
    obtain ⟨e6, b6⟩ := nk_of (h6 i (by omega)) (by omega)
    obtain ⟨f6, f7, p1, p2, p3⟩ := ih (i + 1) F (upR (upR K 7 (upd (K 7) i (nI 0))) 6 (upd (K 6) i (nI (nk K 6 i - 1)))) (by omega) (by
      simp (disch := omega) only [pu_Rn]
      exact e12) (by
      intro g hg
      simp (disch := omega) only [pu_Rs]
      by_cases z : g = i
      · exact ⟨nk K 6 i - 1, by omega, pu_us z⟩
      · rw [pu_un z]
        exact h6 g hg) (by omega)
    refine ⟨f6, f7, ?_, ?_, ?_⟩
    · have eK : ∀ (a b f g : Nat → Int32), upR (upR (upR (upR K 7 a) 6 b) 7 f) 6 g = upR (upR K 7 f) 6 g := by
        intro a b f g
        rw [upR_comm (K := upR K 7 a) (a := 6) (b := 7) (by omega), pu_RR, pu_RR]
      rw [eK] at p1
      unfold f_X1_passNight_l2
      simp (disch := omega) only [e12, e6, pu_maxs, ↓pu_m1, pu_i0, pu_i1, pu_i2, pu_i3, pu_i4, pu_i5, pu_i6, pu_i7, pu_i8, pu_i9, pu_i10, pu_i11, pu_i12, pu_i13, pu_i14, pu_i15, pu_i16, pu_i17, pu_i18, pu_i19, pu_i20, pu_i21, pu_i22, pu_i23, pu_i30, pu_i33, pu_i34, pu_i35, pu_i36, pu_i40, pu_i41, pu_i42, pu_i45, pu_i46, pu_i48, pu_i49, pu_i50, pu_i57, pu_i59, pu_i60, pu_i62, pu_i66, pu_i86, pu_i94, pu_i99, pu_i100, pu_i103, pu_i106, pu_i108, pu_i109, pu_i111, pu_i113, pu_i119, pu_i126, pu_i999, pu_bnd, pu_nm, pu_gd, pu_bnd2, pu_inb, pu_at, pu_put, pu_us, pu_un, pu_Rs, pu_Rn, pu_upS, pu_RR, nI_add, pk_mul, pk_sub, nI_clamp, nI_eq, nI_leI, nI_ltI, pu_nI_mI, pu_mI_nI, pu_mm, pu_nn, pu_nI_le_mI, pu_nI_lt_mI, pu_mI_lt, pu_mI_le, pu_inW, pu_inO, if_pos, if_neg, ↓reduceIte, pu_bnd3]
      exact p1
    · intro j
      rw [p2]
      simp (disch := omega) only [pu_Rs, pu_Rn]
      by_cases z : i + 1 ≤ j ∧ j < n
      · rw [if_pos z, if_pos (by omega)]
      · rw [if_neg z]
        by_cases z2 : j = i
        · rw [pu_us z2, if_pos (by omega)]
        · rw [pu_un z2, if_neg (by omega)]
    · intro j
      rw [p3]
      unfold nk
      simp (disch := omega) only [pu_Rs, pu_Rn]
      by_cases z : i + 1 ≤ j ∧ j < n
      · rw [if_pos z, if_pos (by omega), pu_un (by omega)]
      · rw [if_neg z]
        by_cases z2 : j = i
        · subst z2
          rw [pu_us rfl, if_pos (by omega)]
        · rw [pu_un z2, if_neg (by omega)]
theorem i_night {B n : Nat} {l : Nat → Nat} {K : RK} (h : Inv B n l K) (hB : 360 * B < 2 ^ 30) : ∃ K2 : RK, f_X0_endNight K = some (sI (K 7) n, K2) ∧ Inv (B + 1) n (fun _ => 0) K2 ∧ K2 11 0 = K 11 0 + nI 1 ∧ (∀ g, g < n → K2 7 g = nI 0) := by
  obtain ⟨hR, ⟨t1, t2, t3⟩, hI⟩ := h
  have hn := hR.n10
  have e12 := hR.e12
  have s7 := e_sum (f := K 7) hn
  obtain ⟨⟨et, ht⟩, -⟩ := hR.t hB
  obtain ⟨f6, f7, p1, p2, p3⟩ := lp_pass hn n 0 fuelN K (by omega) e12 (fun g hg => (hR.g g hg).2.2.2.2.1) (by unfold fuelN; omega)
  have p1' : f_X1_passNight K = some (upR (upR K 7 f7) 6 f6) := p1
  have q3' : f_X3_sendAllAway (upR (upR K 7 f7) 6 f6) = some (upR (upR (upR K 7 f7) 6 f6) 9 (upd (upd (upd (K 9) 0 (nI 0)) 1 (nI 0)) 2 (nI 0))) := by
    have s : ∀ (F i : Nat) (Kx : RK), i < 3 → f_X3_sendAllAway_l2 (F + 1) Kx (nI i) = f_X3_sendAllAway_l2 F (upR Kx 9 (upd (Kx 9) i (nI 0))) (nI (i + 1)) := by
      intro F i Kx hi
      rw [show f_X3_sendAllAway_l2 (F + 1) Kx (nI i) = _ from by unfold f_X3_sendAllAway_l2; rfl]
      simp (disch := omega) only [↓pu_m1, pu_i0, pu_i1, pu_i2, pu_i3, pu_i4, pu_i5, pu_i6, pu_i7, pu_i8, pu_i9, pu_i10, pu_i11, pu_i12, pu_i13, pu_i14, pu_i15, pu_i16, pu_i17, pu_i18, pu_i19, pu_i20, pu_i21, pu_i22, pu_i23, pu_i30, pu_i33, pu_i34, pu_i35, pu_i36, pu_i40, pu_i41, pu_i42, pu_i45, pu_i46, pu_i48, pu_i49, pu_i50, pu_i57, pu_i59, pu_i60, pu_i62, pu_i66, pu_i86, pu_i94, pu_i99, pu_i100, pu_i103, pu_i106, pu_i108, pu_i109, pu_i111, pu_i113, pu_i119, pu_i126, pu_i999, pu_bnd, pu_nm, pu_gd, pu_bnd2, pu_inb, pu_at, pu_put, pu_us, pu_un, pu_Rs, pu_Rn, pu_upS, pu_RR, nI_add, pk_mul, pk_sub, nI_clamp, nI_eq, nI_leI, nI_ltI, pu_nI_mI, pu_mI_nI, pu_mm, pu_nn, pu_nI_le_mI, pu_nI_lt_mI, pu_mI_lt, pu_mI_le, pu_inW, pu_inO, if_pos, if_neg, ↓reduceIte, pu_bnd3]
    have e : ∀ (F : Nat) (Kx : RK), f_X3_sendAllAway_l2 (F + 1) Kx (nI 3) = some Kx := by
      intro F Kx
      rw [show f_X3_sendAllAway_l2 (F + 1) Kx (nI 3) = _ from by unfold f_X3_sendAllAway_l2; rfl]
      simp (disch := omega) only [↓pu_m1, pu_i0, pu_i1, pu_i2, pu_i3, pu_i4, pu_i5, pu_i6, pu_i7, pu_i8, pu_i9, pu_i10, pu_i11, pu_i12, pu_i13, pu_i14, pu_i15, pu_i16, pu_i17, pu_i18, pu_i19, pu_i20, pu_i21, pu_i22, pu_i23, pu_i30, pu_i33, pu_i34, pu_i35, pu_i36, pu_i40, pu_i41, pu_i42, pu_i45, pu_i46, pu_i48, pu_i49, pu_i50, pu_i57, pu_i59, pu_i60, pu_i62, pu_i66, pu_i86, pu_i94, pu_i99, pu_i100, pu_i103, pu_i106, pu_i108, pu_i109, pu_i111, pu_i113, pu_i119, pu_i126, pu_i999, pu_bnd, pu_nm, pu_gd, pu_bnd2, pu_inb, pu_at, pu_put, pu_us, pu_un, pu_Rs, pu_Rn, pu_upS, pu_RR, nI_add, pk_mul, pk_sub, nI_clamp, nI_eq, nI_leI, nI_ltI, pu_nI_mI, pu_mI_nI, pu_mm, pu_nn, pu_nI_le_mI, pu_nI_lt_mI, pu_mI_lt, pu_mI_le, pu_inW, pu_inO, if_pos, if_neg, ↓reduceIte, pu_bnd3]
    have u := (s 999 0 (upR (upR K 7 f7) 6 f6) (by omega)).trans ((s 998 1 _ (by omega)).trans ((s 997 2 _ (by omega)).trans (e 996 _)))
    simp (disch := omega) only [pu_RR, pu_Rs, pu_Rn] at u
    exact u
  refine ⟨upR (upR (upR (upR K 7 f7) 6 f6) 9 (upd (upd (upd (K 9) 0 (nI 0)) 1 (nI 0)) 2 (nI 0))) 11 (upd (K 11) 0 (K 11 0 + nI 1)), ?_, ⟨⟨?_, ?_, ?_, ?_⟩, ⟨?_, ?_, ?_⟩, ?_⟩, ?_, ?_⟩
  · unfold f_X0_endNight
    simp (disch := omega) only [e12, s7, p1', q3', ↓pu_m1, pu_i0, pu_i1, pu_i2, pu_i3, pu_i4, pu_i5, pu_i6, pu_i7, pu_i8, pu_i9, pu_i10, pu_i11, pu_i12, pu_i13, pu_i14, pu_i15, pu_i16, pu_i17, pu_i18, pu_i19, pu_i20, pu_i21, pu_i22, pu_i23, pu_i30, pu_i33, pu_i34, pu_i35, pu_i36, pu_i40, pu_i41, pu_i42, pu_i45, pu_i46, pu_i48, pu_i49, pu_i50, pu_i57, pu_i59, pu_i60, pu_i62, pu_i66, pu_i86, pu_i94, pu_i99, pu_i100, pu_i103, pu_i106, pu_i108, pu_i109, pu_i111, pu_i113, pu_i119, pu_i126, pu_i999, pu_bnd, pu_nm, pu_gd, pu_bnd2, pu_inb, pu_at, pu_put, pu_us, pu_un, pu_Rs, pu_Rn, pu_upS, pu_RR, nI_add, pk_mul, pk_sub, nI_clamp, nI_eq, nI_leI, nI_ltI, pu_nI_mI, pu_mI_nI, pu_mm, pu_nn, pu_nI_le_mI, pu_nI_lt_mI, pu_mI_lt, pu_mI_le, pu_inW, pu_inO, if_pos, if_neg, ↓reduceIte, pu_bnd3]
  · obtain ⟨_, _, h0, h1⟩ := hR.s
    unfold IvS
    simp (disch := omega) only [pu_Rs, pu_Rn, pu_us]
    exact ⟨hn, e12, ⟨nk K 11 0 + 1, by omega, by rw [et, nI_add]⟩, h1⟩
  · intro g hg
    obtain ⟨h0, h1, h2, h3, h6, h7⟩ := hR.g g hg
    simp (disch := omega) only [pu_Rs, pu_Rn]
    obtain ⟨-, b6⟩ := nk_of h6 (by omega)
    exact ⟨h0, h1, rg_mono h2 (by omega), h3, ⟨nk K 6 g - 1, by omega, by rw [p3, if_pos (by omega)]⟩, ⟨0, by omega, by rw [p2, if_pos (by omega)]⟩⟩
  · exact hR.c
  · refine ⟨?_, ?_, ?_, ?_⟩
    · intro c hc
      simp (disch := omega) only [pu_Rs, pu_Rn]
      rcases (show c = 0 ∨ c = 1 ∨ c = 2 by omega) with z | z | z <;> subst z <;> simp (disch := omega) only [pu_us, pu_un]
    · intro c hc k hk
      exact absurd hk (Nat.not_lt_zero _)
    · intro c hc
      exact Nat.zero_le _
    · intro c hc k hk
      exact absurd hk (Nat.not_lt_zero _)
  · simp (disch := omega) only [pu_Rs, pu_Rn, pu_un]
    exact t1
  · simp (disch := omega) only [pu_Rs, pu_Rn, pu_un]
    exact t2
  · simp (disch := omega) only [pu_Rs, pu_Rn, pu_un]
    exact t3
  · intro c hc k hk
    exact absurd hk (Nat.not_lt_zero _)
  · simp (disch := omega) only [pu_Rs, pu_Rn, pu_us]
  · intro g hg
    simp (disch := omega) only [pu_Rs, pu_Rn]
    rw [p2, if_pos (by omega)]
