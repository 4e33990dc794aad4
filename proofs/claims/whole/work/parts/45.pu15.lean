/-! the pure part: the text's own calls, undo, keep, restore -/
theorem upOS_8 {O : XO} {r i : Nat} {v : Int32} (q j : Nat) : upOS O r i v 8 q j = if q = r ∧ j = i then v else O 8 q j := by
  unfold upOS upO
  rw [if_pos rfl]
  by_cases z : q = r
  · subst z
    rw [pu_Rs]
    by_cases z2 : j = i
    · rw [pu_us z2, if_pos ⟨rfl, z2⟩]
    · rw [pu_un z2, if_neg (by omega)]
  · rw [pu_Rn z, if_neg (by omega)]
theorem upOS_n {O : XO} {r i : Nat} {v : Int32} (q : Nat) (h : q ≠ 8) : upOS O r i v q = O q := by
  unfold upOS upO
  rw [if_neg h]
theorem RR.ring {c : Nat} {O O2 : XO} {K : RK} {M M2 : MS} (h : RR c O K M) (ho : ∀ q, q < 8 → O2 q = O q) (h0 : ∀ j, j < 3 → O2 8 0 j = O 8 0 j) (hm : M2.1 0 = M.1 0) (h3 : ∀ q, 0 < q → q < 3 → M2.1 3 q = M.1 3 q) (ht : Txt O2 M2) : RR c O2 K M2 := by
  obtain ⟨hr, ⟨a, s, h1, h2, e1, e2, e3, h6⟩, hS, hT⟩ := h
  refine ⟨by rw [hm]; exact hr, ⟨a, s, h1, h2, by rw [h0 1 (by omega)]; exact e1, by rw [h0 2 (by omega)]; exact e2, by rw [h3 1 (by omega) (by omega)]; exact e3, ?_⟩, ?_, ht⟩
  · intro i hi
    rw [ho _ (by omega), hm]
    exact h6 i hi
  · unfold Snap
    rw [h0 0 (by omega), h3 2 (by omega) (by omega), ho 1 (by omega), hm]
    exact hS
theorem z_append : Sim_append RR := by
  intro c O K M v1 hc hR
  obtain ⟨M', e0, hR', ht, hm, hm1, hm3, -⟩ := bgn hR
  obtain ⟨M1', e1, hR1, ht1⟩ := rfu (t := 1) hR (Or.inl rfl)
  obtain ⟨M2', e2, hR2', ht2⟩ := rfu (t := 2) hR (Or.inr rfl)
  obtain ⟨-, -, -, ⟨T, t1, t2, t3, t4⟩⟩ := id hR
  have t3' : M'.1 3 3 = nI T := by rw [hm3 3 (by omega)]; exact t3
  unfold f_X5_append f_X6_append
  rcases pu_within v1 (a := 33) (b := 126) (by omega) (by omega) with q1 | ⟨j, h0, h1, q1⟩
  · exact ⟨nI 0, nI 1, M1', by simp (disch := omega) only [q1, f_X6_append_b30, e1, ↓pu_m1, pu_i0, pu_i1, pu_i2, pu_i3, pu_i4, pu_i5, pu_i6, pu_i7, pu_i8, pu_i9, pu_i10, pu_i11, pu_i12, pu_i13, pu_i14, pu_i15, pu_i16, pu_i17, pu_i18, pu_i19, pu_i20, pu_i21, pu_i22, pu_i30, pu_i33, pu_i34, pu_i36, pu_i40, pu_i42, pu_i48, pu_i49, pu_i50, pu_i57, pu_i59, pu_i60, pu_i62, pu_i86, pu_i94, pu_i99, pu_i103, pu_i106, pu_i108, pu_i109, pu_i111, pu_i113, pu_i119, pu_i126, pu_i999, pu_bnd, pu_nm, pu_gd, pu_bnd2, pu_bxl, pu_bxr, pu_inb, pu_at, pu_put, pu_us, pu_un, pu_Rs, pu_Rn, pu_upS, pu_M1, pu_M2, pu_MM, pu_RR, pu_H1, pu_H2, nI_add, pk_mul, pk_sub, nI_clamp, nI_eq, nI_leI, nI_ltI, pu_in, pu_of, pu_lay, pu_ll, pu_il, pu_nI_mI, pu_mI_nI, pu_mm, pu_nn, pu_nI_le_mI, pu_nI_lt_mI, pu_mI_lt, pu_mI_le, pu_inW, pu_inO, if_pos, if_neg, ↓reduceIte], ht1, Or.inl ⟨2, Or.inl rfl, by simp (disch := omega) only [q1, f_need, ↓pu_m1, pu_i0, pu_i1, pu_i2, pu_i3, pu_i4, pu_i5, pu_i6, pu_i7, pu_i8, pu_i9, pu_i10, pu_i11, pu_i12, pu_i13, pu_i14, pu_i15, pu_i16, pu_i17, pu_i18, pu_i19, pu_i20, pu_i21, pu_i22, pu_i30, pu_i33, pu_i34, pu_i36, pu_i40, pu_i42, pu_i48, pu_i49, pu_i50, pu_i57, pu_i59, pu_i60, pu_i62, pu_i86, pu_i94, pu_i99, pu_i103, pu_i106, pu_i108, pu_i109, pu_i111, pu_i113, pu_i119, pu_i126, pu_i999, pu_bnd, pu_nm, pu_gd, pu_bnd2, pu_bxl, pu_bxr, pu_inb, pu_at, pu_put, pu_us, pu_un, pu_Rs, pu_Rn, pu_upS, pu_M1, pu_M2, pu_MM, pu_RR, pu_H1, pu_H2, nI_add, pk_mul, pk_sub, nI_clamp, nI_eq, nI_leI, nI_ltI, pu_in, pu_of, pu_lay, pu_ll, pu_il, pu_nI_mI, pu_mI_nI, pu_mm, pu_nn, pu_nI_le_mI, pu_nI_lt_mI, pu_mI_lt, pu_mI_le, pu_inW, pu_inO, if_pos, if_neg, ↓reduceIte], rfl, hR1⟩⟩
  subst q1
  have p1 := pu_inW (j := j) (a := 33) (b := 126) h0 h1 (by omega)
  by_cases q : T = 60
  · subst q
    exact ⟨nI 0, nI 2, M2', by simp (disch := omega) only [p1, t3, f_X6_append_b30, e2, ↓pu_m1, pu_i0, pu_i1, pu_i2, pu_i3, pu_i4, pu_i5, pu_i6, pu_i7, pu_i8, pu_i9, pu_i10, pu_i11, pu_i12, pu_i13, pu_i14, pu_i15, pu_i16, pu_i17, pu_i18, pu_i19, pu_i20, pu_i21, pu_i22, pu_i30, pu_i33, pu_i34, pu_i36, pu_i40, pu_i42, pu_i48, pu_i49, pu_i50, pu_i57, pu_i59, pu_i60, pu_i62, pu_i86, pu_i94, pu_i99, pu_i103, pu_i106, pu_i108, pu_i109, pu_i111, pu_i113, pu_i119, pu_i126, pu_i999, pu_bnd, pu_nm, pu_gd, pu_bnd2, pu_bxl, pu_bxr, pu_inb, pu_at, pu_put, pu_us, pu_un, pu_Rs, pu_Rn, pu_upS, pu_M1, pu_M2, pu_MM, pu_RR, pu_H1, pu_H2, nI_add, pk_mul, pk_sub, nI_clamp, nI_eq, nI_leI, nI_ltI, pu_in, pu_of, pu_lay, pu_ll, pu_il, pu_nI_mI, pu_mI_nI, pu_mm, pu_nn, pu_nI_le_mI, pu_nI_lt_mI, pu_mI_lt, pu_mI_le, pu_inW, pu_inO, if_pos, if_neg, ↓reduceIte], ht2, Or.inl ⟨3, Or.inr rfl, by simp (disch := omega) only [p1, t2, f_X5_append_b28, f_need, ↓pu_m1, pu_i0, pu_i1, pu_i2, pu_i3, pu_i4, pu_i5, pu_i6, pu_i7, pu_i8, pu_i9, pu_i10, pu_i11, pu_i12, pu_i13, pu_i14, pu_i15, pu_i16, pu_i17, pu_i18, pu_i19, pu_i20, pu_i21, pu_i22, pu_i30, pu_i33, pu_i34, pu_i36, pu_i40, pu_i42, pu_i48, pu_i49, pu_i50, pu_i57, pu_i59, pu_i60, pu_i62, pu_i86, pu_i94, pu_i99, pu_i103, pu_i106, pu_i108, pu_i109, pu_i111, pu_i113, pu_i119, pu_i126, pu_i999, pu_bnd, pu_nm, pu_gd, pu_bnd2, pu_bxl, pu_bxr, pu_inb, pu_at, pu_put, pu_us, pu_un, pu_Rs, pu_Rn, pu_upS, pu_M1, pu_M2, pu_MM, pu_RR, pu_H1, pu_H2, nI_add, pk_mul, pk_sub, nI_clamp, nI_eq, nI_leI, nI_ltI, pu_in, pu_of, pu_lay, pu_ll, pu_il, pu_nI_mI, pu_mI_nI, pu_mm, pu_nn, pu_nI_le_mI, pu_nI_lt_mI, pu_mI_lt, pu_mI_le, pu_inW, pu_inO, if_pos, if_neg, ↓reduceIte], rfl, hR2'⟩⟩
  · have hR3 : RR c (upOS (upO O 1 (upd (O 8 1) T (nI j))) 0 3 (nI (T + 1))) K (upM (upM M' 1 (upd (M'.1 1) T (nI j))) 3 (upd (M'.1 3) 3 (nI (T + 1)))) := by
      refine hR'.ring ?_ ?_ ?_ ?_ ⟨T + 1, by omega, ?_, ?_, ?_⟩
      · intro q hq
        rw [upOS_n q (by omega)]
        unfold upO
        rw [if_neg (by omega)]
      · intro q hq
        rw [upOS_8, if_neg (by omega)]
        unfold upO
        rw [if_pos rfl, pu_Rn (by omega)]
      · rw [pu_M1, pu_Rn (by omega), pu_M1, pu_Rn (by omega)]
      · intro q q0 q3
        rw [pu_M1, pu_Rs, pu_un (by omega)]
      · rw [upOS_8, if_pos ⟨rfl, rfl⟩]
      · rw [pu_M1, pu_Rs, pu_us rfl]
      · intro i hi
        rw [upOS_8, if_neg (by omega)]
        unfold upO
        rw [if_pos rfl, pu_Rs, pu_M1, pu_Rn (by omega), pu_M1, pu_Rs]
        by_cases z : i = T
        · exact ⟨j, h1, pu_us z, pu_us z⟩
        · rw [pu_un z, pu_un z, hm1]
          exact t4 i (by omega)
    have th : f_X6_thrown (upM (upM M' 1 (upd (M'.1 1) T (nI j))) 3 (upd (M'.1 3) 3 (nI (T + 1)))) = some (nI 0) := by
      unfold f_X6_thrown
      rw [pu_M1, pu_Rs, pu_un (by omega), ht]
    refine ⟨nI (T + 1), nI 0, upM (upM M' 1 (upd (M'.1 1) T (nI j))) 3 (upd (M'.1 3) 3 (nI (T + 1))), ?_, th, Or.inr ⟨(nI (T + 1), upOS (upO O 1 (upd (O 8 1) T (nI j))) 0 3 (nI (T + 1))), ?_, rfl, rfl, hR3.mono⟩⟩
    · simp (disch := omega) only [p1, t3, f_X6_append_b30, e0, t3', pu_MS, ↓pu_m1, pu_i0, pu_i1, pu_i2, pu_i3, pu_i4, pu_i5, pu_i6, pu_i7, pu_i8, pu_i9, pu_i10, pu_i11, pu_i12, pu_i13, pu_i14, pu_i15, pu_i16, pu_i17, pu_i18, pu_i19, pu_i20, pu_i21, pu_i22, pu_i30, pu_i33, pu_i34, pu_i36, pu_i40, pu_i42, pu_i48, pu_i49, pu_i50, pu_i57, pu_i59, pu_i60, pu_i62, pu_i86, pu_i94, pu_i99, pu_i103, pu_i106, pu_i108, pu_i109, pu_i111, pu_i113, pu_i119, pu_i126, pu_i999, pu_bnd, pu_nm, pu_gd, pu_bnd2, pu_bxl, pu_bxr, pu_inb, pu_at, pu_put, pu_us, pu_un, pu_Rs, pu_Rn, pu_upS, pu_M1, pu_M2, pu_MM, pu_RR, pu_H1, pu_H2, nI_add, pk_mul, pk_sub, nI_clamp, nI_eq, nI_leI, nI_ltI, pu_in, pu_of, pu_lay, pu_ll, pu_il, pu_nI_mI, pu_mI_nI, pu_mm, pu_nn, pu_nI_le_mI, pu_nI_lt_mI, pu_mI_lt, pu_mI_le, pu_inW, pu_inO, if_pos, if_neg, ↓reduceIte]
    · have x1 : upO O 1 (upd (O 8 1) T (nI j)) 8 0 3 = nI T := by
        unfold upO
        rw [if_pos rfl, pu_Rn (by omega)]
        exact t2
      have x2 : upOS (upO O 1 (upd (O 8 1) T (nI j))) 0 3 (nI (T + 1)) 8 0 3 = nI (T + 1) := by
        rw [upOS_8, if_pos ⟨rfl, rfl⟩]
      have x3 : f_X4_write O (nI j) = some (upOS (upO O 1 (upd (O 8 1) T (nI j))) 0 3 (nI (T + 1))) := by
        unfold f_X4_write
        rw [t2, pu_put (by omega) (by omega), pu_nm, x1, pu_i1, nI_add, pu_nm]
      simp (disch := omega) only [p1, t2, f_X5_append_b28, f_need, x3, x2, ↓pu_m1, pu_i0, pu_i1, pu_i2, pu_i3, pu_i4, pu_i5, pu_i6, pu_i7, pu_i8, pu_i9, pu_i10, pu_i11, pu_i12, pu_i13, pu_i14, pu_i15, pu_i16, pu_i17, pu_i18, pu_i19, pu_i20, pu_i21, pu_i22, pu_i30, pu_i33, pu_i34, pu_i36, pu_i40, pu_i42, pu_i48, pu_i49, pu_i50, pu_i57, pu_i59, pu_i60, pu_i62, pu_i86, pu_i94, pu_i99, pu_i103, pu_i106, pu_i108, pu_i109, pu_i111, pu_i113, pu_i119, pu_i126, pu_i999, pu_bnd, pu_nm, pu_gd, pu_bnd2, pu_bxl, pu_bxr, pu_inb, pu_at, pu_put, pu_us, pu_un, pu_Rs, pu_Rn, pu_upS, pu_M1, pu_M2, pu_MM, pu_RR, pu_H1, pu_H2, nI_add, pk_mul, pk_sub, nI_clamp, nI_eq, nI_leI, nI_ltI, pu_in, pu_of, pu_lay, pu_ll, pu_il, pu_nI_mI, pu_mI_nI, pu_mm, pu_nn, pu_nI_le_mI, pu_nI_lt_mI, pu_mI_lt, pu_mI_le, pu_inW, pu_inO, if_pos, if_neg, ↓reduceIte]
theorem z_clearBuffer : Sim_clearBuffer RR := by
  intro c O K M hc hR
  obtain ⟨M', a1, hR', a3, a4, a5, a6, a7⟩ := bgn hR
  obtain ⟨-, -, -, ⟨T, t1, t2, t3, t4⟩⟩ := id hR'
  refine ⟨nI T, upOS O 0 3 (nI 0), upMS M' 3 3 (nI 0), ?_, ?_, ?_⟩
  · unfold f_X5_clearBuffer
    rw [t2]
    rfl
  · unfold f_X6_clearBuffer
    rw [show upMS M 3 0 0 = M' from a7.symm, pu_nm, pu_nm, t3]
    rfl
  · refine RR.mono (hR'.ring ?_ ?_ ?_ ?_ ⟨0, by omega, ?_, ?_, fun i hi => absurd hi (by omega)⟩)
    · intro q hq
      rw [upOS_n q (by omega)]
    · intro q hq
      rw [upOS_8, if_neg (by omega)]
    · rw [pu_MS, pu_M1, pu_Rn (by omega)]
    · intro q q0 q3
      rw [pu_MS, pu_M1, pu_Rs, pu_un (by omega)]
    · rw [upOS_8, if_pos ⟨rfl, rfl⟩]
    · rw [pu_MS, pu_M1, pu_Rs, pu_us rfl]
theorem z_undo : Sim_undo RR := by
  intro c O K M hc hR
  obtain ⟨M', e0, hR', ht, hm, hm1, hm3, -⟩ := bgn hR
  obtain ⟨M1', e1, hR1, ht1⟩ := rfu (t := 1) hR (Or.inl rfl)
  obtain ⟨hK, ⟨a, s, ha, hs, x1, x2, x3, hw⟩, hS, hT⟩ := id hR'
  have x3' : M.1 3 1 = nI s := by rw [← hm3 1 (by omega)]; exact x3
  unfold f_X5_undo f_X6_undo
  by_cases q : s = 0
  · subst q
    exact ⟨nI 0, nI 1, M1', by simp (disch := omega) only [x3', f_X6_undo_b13, e1, ↓pu_m1, pu_i0, pu_i1, pu_i2, pu_i3, pu_i4, pu_i5, pu_i6, pu_i7, pu_i8, pu_i9, pu_i10, pu_i11, pu_i12, pu_i13, pu_i14, pu_i15, pu_i16, pu_i17, pu_i18, pu_i19, pu_i20, pu_i21, pu_i22, pu_i30, pu_i33, pu_i34, pu_i36, pu_i40, pu_i42, pu_i48, pu_i49, pu_i50, pu_i57, pu_i59, pu_i60, pu_i62, pu_i86, pu_i94, pu_i99, pu_i103, pu_i106, pu_i108, pu_i109, pu_i111, pu_i113, pu_i119, pu_i126, pu_i999, pu_bnd, pu_nm, pu_gd, pu_bnd2, pu_bxl, pu_bxr, pu_inb, pu_at, pu_put, pu_us, pu_un, pu_Rs, pu_Rn, pu_upS, pu_M1, pu_M2, pu_MM, pu_RR, pu_H1, pu_H2, nI_add, pk_mul, pk_sub, nI_clamp, nI_eq, nI_leI, nI_ltI, pu_in, pu_of, pu_lay, pu_ll, pu_il, pu_nI_mI, pu_mI_nI, pu_mm, pu_nn, pu_nI_le_mI, pu_nI_lt_mI, pu_mI_lt, pu_mI_le, pu_inW, pu_inO, if_pos, if_neg, ↓reduceIte], ht1, Or.inl ⟨3, rfl, by simp (disch := omega) only [x2, f_X5_undo_b15, f_need, ↓pu_m1, pu_i0, pu_i1, pu_i2, pu_i3, pu_i4, pu_i5, pu_i6, pu_i7, pu_i8, pu_i9, pu_i10, pu_i11, pu_i12, pu_i13, pu_i14, pu_i15, pu_i16, pu_i17, pu_i18, pu_i19, pu_i20, pu_i21, pu_i22, pu_i30, pu_i33, pu_i34, pu_i36, pu_i40, pu_i42, pu_i48, pu_i49, pu_i50, pu_i57, pu_i59, pu_i60, pu_i62, pu_i86, pu_i94, pu_i99, pu_i103, pu_i106, pu_i108, pu_i109, pu_i111, pu_i113, pu_i119, pu_i126, pu_i999, pu_bnd, pu_nm, pu_gd, pu_bnd2, pu_bxl, pu_bxr, pu_inb, pu_at, pu_put, pu_us, pu_un, pu_Rs, pu_Rn, pu_upS, pu_M1, pu_M2, pu_MM, pu_RR, pu_H1, pu_H2, nI_add, pk_mul, pk_sub, nI_clamp, nI_eq, nI_leI, nI_ltI, pu_in, pu_of, pu_lay, pu_ll, pu_il, pu_nI_mI, pu_mI_nI, pu_mm, pu_nn, pu_nI_le_mI, pu_nI_lt_mI, pu_mI_lt, pu_mI_le, pu_inW, pu_inO, if_pos, if_neg, ↓reduceIte], rfl, hR1⟩⟩
  · obtain ⟨f, f1, f2, f3⟩ := lp_copies (a := s) (b := 0) (by omega) (by omega) q M'
    have hix : st_ix O (nI (s - 1)) = nI ((a + (s - 1)) % 6) := by
      unfold st_ix
      rw [x1, nI_add, pu_i6]
      exact pk_rem (a := a + (s - 1)) (d := 6) (by omega) (by omega) (by omega)
    have w0 : (upMS (upM M' 0 f) 3 1 (nI (s - 1))).1 0 = f := by rw [pu_MS, pu_M1, pu_Rn (by omega), pu_M1, pu_Rs]
    have w1 : (upMS (upM M' 0 f) 3 1 (nI (s - 1))).1 1 = M'.1 1 := by rw [pu_MS, pu_M1, pu_Rn (by omega), pu_M1, pu_Rn (by omega)]
    have w3 : ∀ q : Nat, (upMS (upM M' 0 f) 3 1 (nI (s - 1))).1 3 q = if q = 1 then nI (s - 1) else M'.1 3 q := by
      intro q
      rw [pu_MS, pu_M1, pu_Rs]
      by_cases z : q = 1
      · rw [pu_us z, if_pos z]
      · rw [pu_un z, if_neg z, pu_M1, pu_Rn (by omega)]
    have hR3 : RR c (upOS O 0 2 (nI (s - 1))) (O (2 + (a + (s - 1)) % 6)) (upMS (upM M' 0 f) 3 1 (nI (s - 1))) := by
      refine ⟨?_, ⟨a, s - 1, ha, by omega, ?_, ?_, ?_, ?_⟩, ?_, ?_⟩
      · rw [w0]
        exact (hw (s - 1) (by omega)).cg (fun j hj => by
          show M'.1 0 (119 * (s - 1 + 1) + j) = f j
          rw [show j = 119 * 0 + j from by omega, f2 j hj, show s - 1 + 1 = s from by omega, show 119 * s + (119 * 0 + j) = 119 * s + j from by omega])
      · rw [upOS_8, if_neg (by omega)]
        exact x1
      · rw [upOS_8, if_pos ⟨rfl, rfl⟩]
      · rw [w3, if_pos rfl]
      · intro i hi
        rw [upOS_n _ (by omega), w0]
        exact (hw i (by omega)).cg (fun j hj => by
          show M'.1 0 (119 * (i + 1) + j) = f (119 * (i + 1) + j)
          rw [f3 _ (by omega)])
      · unfold Snap
        rw [upOS_8, if_neg (by omega), w3, if_neg (by omega), upOS_n _ (by omega), w0]
        rcases hS with q | ⟨q1, q2, q3⟩
        · exact Or.inl q
        · exact Or.inr ⟨q1, q2, q3.cg (fun j hj => by
            show M'.1 0 (119 * 7 + j) = f (119 * 7 + j)
            rw [f3 _ (by omega)])⟩
      · obtain ⟨T, t1, t2, t3, t4⟩ := hT
        refine ⟨T, t1, ?_, ?_, ?_⟩
        · rw [upOS_8, if_neg (by omega)]
          exact t2
        · rw [w3, if_neg (by omega)]
          exact t3
        · intro i hi
          rw [upOS_8, if_neg (by omega), w1]
          exact t4 i hi
    refine ⟨nI (s - 1), nI 0, upMS (upM M' 0 f) 3 1 (nI (s - 1)), ?_, ?_, Or.inr ⟨(nI (s - 1), upOS O 0 2 (nI (s - 1)), O (2 + (a + (s - 1)) % 6)), ?_, rfl, rfl, hR3.mono⟩⟩
    · have y1 : (upM M' 0 f).1 3 1 = nI s := by
        rw [pu_M1, pu_Rn (by omega)]
        exact x3
      have y2 : (upMS (upM M' 0 f) 3 1 (nI (s - 1))).1 3 1 = nI (s - 1) := by rw [w3, if_pos rfl]
      rw [x3', if_neg (show ¬ nI s ≤ 0 from nI_ge (a := 0) (b := s) (by omega) (by omega))]
      unfold f_X6_undo_b13
      rw [show f_X6_holds M 0 = _ from e0, pu_bnd2, if_neg n10, x3, show f_X6_copies M' (nI s) 0 = _ from f1, pu_bnd, y1, pu_i1, pk_sub (by omega), pu_nm, y2]
    · unfold f_X6_thrown
      rw [w3, if_neg (by omega), ht]
    · have y1 : upOS O 0 2 (nI (s - 1)) 8 0 2 = nI (s - 1) := by rw [upOS_8, if_pos ⟨rfl, rfl⟩]
      have y2 : f_X2_bringBack O K = some (upOS O 0 2 (nI (s - 1)), O (2 + (a + (s - 1)) % 6)) := by
        unfold f_X2_bringBack
        rw [x2, pu_i1, pk_sub (by omega), hix, pu_nm, pu_inb (by omega) (by omega), pu_gd, nI_clamp (by omega), pu_nm, pu_nm, Nat.add_comm]
      rw [x2, if_neg (show ¬ nI s ≤ 0 from nI_ge (a := 0) (b := s) (by omega) (by omega))]
      unfold f_X5_undo_b15 f_need
      rw [if_neg (show ¬ (1 : Int32) = 0 from n10), pu_bxr, y2, pu_bnd2, y1]
theorem z_keep : Sim_keep RR := by
  intro c O K M hc hR
  obtain ⟨M', a1, hR', a3, a4, a5, a6, a7⟩ := bgn hR
  obtain ⟨hK, ⟨a, s, ha, hs, x1, x2, x3, hw⟩, hS, hT⟩ := id hR'
  obtain ⟨n, l, h⟩ := id hK
  obtain ⟨f, f1, f2, f3⟩ := lp_copies (a := 0) (b := 7) (by omega) (by omega) (by omega) M'
  have fl : ∀ j, j < 119 * 7 → f j = M'.1 0 j := fun j hj => f3 j (by omega)
  have w0 : (upMS (upM M' 0 f) 3 2 (nI 1)).1 0 = f := by rw [pu_MS, pu_M1, pu_Rn (by omega), pu_M1, pu_Rs]
  have w1 : (upMS (upM M' 0 f) 3 2 (nI 1)).1 1 = M'.1 1 := by rw [pu_MS, pu_M1, pu_Rn (by omega), pu_M1, pu_Rn (by omega)]
  have w3 : ∀ q : Nat, (upMS (upM M' 0 f) 3 2 (nI 1)).1 3 q = if q = 2 then nI 1 else M'.1 3 q := by
    intro q
    rw [pu_MS, pu_M1, pu_Rs]
    by_cases z : q = 2
    · rw [pu_us z, if_pos z]
    · rw [pu_un z, if_neg z, pu_M1, pu_Rn (by omega)]
  have o7 : ∀ q, q < 8 → upOS (upB O 1 K) 0 0 (nI 1) q = if q = 1 then K else O q := by
    intro q hq
    rw [upOS_n _ (by omega)]
    rfl
  have o8 : ∀ q j : Nat, upOS (upB O 1 K) 0 0 (nI 1) 8 q j = if q = 0 ∧ j = 0 then nI 1 else O 8 q j := by
    intro q j
    rw [upOS_8]
    by_cases z : q = 0 ∧ j = 0
    · rw [if_pos z, if_pos z]
    · rw [if_neg z, if_neg z]
      unfold upB
      rw [if_neg (by omega)]
  refine ⟨K 11 0, upOS (upB O 1 K) 0 0 (nI 1), upMS (upM M' 0 f) 3 2 (nI 1), rfl, ?_, RR.mono ⟨?_, ⟨a, s, ha, hs, ?_, ?_, ?_, ?_⟩, ?_, ?_⟩⟩
  · unfold f_X6_keep
    rw [show upMS M 3 0 0 = M' from a7.symm, pu_nm, show f_X6_copies M' 0 7 = _ from f1, pu_bnd, pu_nm, show (1 : Int32) = nI 1 from rfl]
    rw [show inb 0 952 = true from pu_inb (a := 0) (N := 952) (by omega) (by omega), pu_gd, w0, show (0 : Int32).toNatClampNeg = 0 from nI_clamp (n := 0) (by omega), fl 0 (by omega), h.2.2.2.2.1.1]
    rfl
  · rw [w0]
    exact hK.cg (fun j hj => (fl j (by omega)).symm)
  · rw [o8, if_neg (by omega)]
    exact x1
  · rw [o8, if_neg (by omega)]
    exact x2
  · rw [w3, if_neg (by omega)]
    exact x3
  · intro i hi
    rw [o7 _ (by omega), if_neg (by omega), w0]
    exact (hw i hi).cg (fun j hj => by
      show M'.1 0 (119 * (i + 1) + j) = f (119 * (i + 1) + j)
      rw [fl _ (by omega)])
  · unfold Snap
    right
    rw [o8, if_pos ⟨rfl, rfl⟩, w3, if_pos rfl, w0, o7 1 (by omega), if_pos rfl]
    refine ⟨rfl, rfl, hK.cg (fun j hj => ?_)⟩
    show M'.1 0 j = f (119 * 7 + j)
    rw [f2 j hj, show 119 * 0 + j = j from by omega]
  · obtain ⟨T, t1, t2, t3, t4⟩ := hT
    refine ⟨T, t1, ?_, ?_, ?_⟩
    · rw [o8, if_neg (by omega)]
      exact t2
    · rw [w3, if_neg (by omega)]
      exact t3
    · intro i hi
      rw [o8, if_neg (by omega), w1]
      exact t4 i hi
theorem z_restore : Sim_restore RR := by
  intro c O K M hc hR
  obtain ⟨M', O2, M2, n, l, e0, es, ec, hR2, ht, h, h2, hO0, hM2⟩ := s_go hR
  obtain ⟨M1', e1, hR1, ht1⟩ := rfu (t := 1) hR (Or.inl rfl)
  unfold f_X5_restore f_X6_restore
  rcases hR.2.2.1 with ⟨q1, q2⟩ | ⟨q1, q2, q3⟩
  · exact ⟨nI 0, nI 1, M1', by simp (disch := omega) only [q2, f_X6_restore_b13, e1, ↓pu_m1, pu_i0, pu_i1, pu_i2, pu_i3, pu_i4, pu_i5, pu_i6, pu_i7, pu_i8, pu_i9, pu_i10, pu_i11, pu_i12, pu_i13, pu_i14, pu_i15, pu_i16, pu_i17, pu_i18, pu_i19, pu_i20, pu_i21, pu_i22, pu_i30, pu_i33, pu_i34, pu_i36, pu_i40, pu_i42, pu_i48, pu_i49, pu_i50, pu_i57, pu_i59, pu_i60, pu_i62, pu_i86, pu_i94, pu_i99, pu_i103, pu_i106, pu_i108, pu_i109, pu_i111, pu_i113, pu_i119, pu_i126, pu_i999, pu_bnd, pu_nm, pu_gd, pu_bnd2, pu_bxl, pu_bxr, pu_inb, pu_at, pu_put, pu_us, pu_un, pu_Rs, pu_Rn, pu_upS, pu_M1, pu_M2, pu_MM, pu_RR, pu_H1, pu_H2, nI_add, pk_mul, pk_sub, nI_clamp, nI_eq, nI_leI, nI_ltI, pu_in, pu_of, pu_lay, pu_ll, pu_il, pu_nI_mI, pu_mI_nI, pu_mm, pu_nn, pu_nI_le_mI, pu_nI_lt_mI, pu_mI_lt, pu_mI_le, pu_inW, pu_inO, if_pos, if_neg, ↓reduceIte], ht1, Or.inl ⟨3, rfl, by simp (disch := omega) only [q1, f_need, ↓pu_m1, pu_i0, pu_i1, pu_i2, pu_i3, pu_i4, pu_i5, pu_i6, pu_i7, pu_i8, pu_i9, pu_i10, pu_i11, pu_i12, pu_i13, pu_i14, pu_i15, pu_i16, pu_i17, pu_i18, pu_i19, pu_i20, pu_i21, pu_i22, pu_i30, pu_i33, pu_i34, pu_i36, pu_i40, pu_i42, pu_i48, pu_i49, pu_i50, pu_i57, pu_i59, pu_i60, pu_i62, pu_i86, pu_i94, pu_i99, pu_i103, pu_i106, pu_i108, pu_i109, pu_i111, pu_i113, pu_i119, pu_i126, pu_i999, pu_bnd, pu_nm, pu_gd, pu_bnd2, pu_bxl, pu_bxr, pu_inb, pu_at, pu_put, pu_us, pu_un, pu_Rs, pu_Rn, pu_upS, pu_M1, pu_M2, pu_MM, pu_RR, pu_H1, pu_H2, nI_add, pk_mul, pk_sub, nI_clamp, nI_eq, nI_leI, nI_ltI, pu_in, pu_of, pu_lay, pu_ll, pu_il, pu_nI_mI, pu_mI_nI, pu_mm, pu_nn, pu_nI_le_mI, pu_nI_lt_mI, pu_mI_lt, pu_mI_le, pu_inW, pu_inO, if_pos, if_neg, ↓reduceIte], rfl, hR1⟩⟩
  · obtain ⟨f, f1, f2, f3⟩ := lp_copies (a := 7) (b := 0) (by omega) (by omega) (by omega) M2
    have hs : RW (600 * c) (O2 1) (fun k => M2.1 0 (119 * 7 + k)) := by
      rcases hR2.2.2.1 with ⟨p1, p2⟩ | ⟨p1, p2, p3⟩
      · rw [hM2, q2] at p2
        exact absurd p2 (by decide)
      · exact p3
    have hr : RW (600 * c) (O2 1) ((upM M2 0 f).1 0) := by
      rw [pu_M1, pu_Rs]
      exact hs.cg (fun j hj => by
        show M2.1 0 (119 * 7 + j) = f j
        rw [show f j = f (119 * 0 + j) from by rw [show 119 * 0 + j = j from by omega], f2 j hj])
    obtain ⟨n2, l2, hr2⟩ := hr
    have fq : FR M2 (upM M2 0 f) := by
      refine ⟨?_, ?_, ?_⟩
      · intro k hk
        rw [pu_M1, pu_Rs]
        exact f3 k (by omega)
      · rw [pu_M1, pu_Rn (by omega)]
      · intro q q0 q1
        rw [pu_M1, pu_Rn (by omega)]
    have g1 := hR2.op fq ⟨n2, l2, hr2.mono (show 600 * c ≤ 600 * (c + 1) by omega)⟩
    have g2 : f_X6_thrown (upM M2 0 f) = some (nI 0) := by
      unfold f_X6_thrown
      rw [pu_M1, pu_Rn (by omega), ht]
    have w0 : f 0 = O2 1 11 0 := by
      have := hr2.2.2.2.2.1.1
      rw [pu_M1, pu_Rs] at this
      exact this
    refine ⟨O2 1 11 0, nI 0, upM M2 0 f, ?_, g2, Or.inr ⟨(O2 1 11 0, O2, O2 1), ?_, rfl, rfl, g1⟩⟩
    · rw [q2, if_neg (show ¬ nI 1 = 0 from n10)]
      unfold f_X6_restore_b13
      rw [show f_X6_holds M 0 = _ from e0, pu_bnd2, if_neg n10, es, pu_bnd, show f_X6_copies M2 7 0 = _ from f1, pu_bnd]
      rw [show inb 0 952 = true from pu_inb (a := 0) (N := 952) (by omega) (by omega), pu_gd, pu_M1, pu_Rs, show (0 : Int32).toNatClampNeg = 0 from nI_clamp (n := 0) (by omega), w0]
      rfl
    · rw [q1]
      unfold f_need
      rw [if_neg (show ¬ nI 1 = 0 from n10), pu_bxr, ec]
      rfl
