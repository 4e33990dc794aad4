/-! the pure part: a carnival happens -/
theorem Txt.S {O : XO} {M : MS} (h : Txt O M) : ∃ (S : Nat → Nat) (T : Nat), TC S T O ∧ M.1 3 3 = nI T ∧ ∀ j, j < T → M.1 1 j = nI (S j) := by
  obtain ⟨T, h1, h2, h3, h4⟩ := h
  have e : ∀ i, i < T → O 8 1 i = nI (if i < T then (O 8 1 i).toNatClampNeg else 0) ∧ M.1 1 i = nI (if i < T then (O 8 1 i).toNatClampNeg else 0) ∧ (O 8 1 i).toNatClampNeg ≤ 126 := by
    intro i hi
    obtain ⟨v, v1, v2, v3⟩ := h4 i hi
    rw [if_pos hi, v2, nI_clamp (by omega)]
    exact ⟨rfl, v3, v1⟩
  refine ⟨fun i => if i < T then (O 8 1 i).toNatClampNeg else 0, T, ⟨h1, h2, fun i hi => (e i hi).1, ?_, ?_⟩, h3, fun j hj => (e j hj).2.1⟩
  · intro i hi
    show (if i < T then (O 8 1 i).toNatClampNeg else 0) = 0
    rw [if_neg (by omega)]
  · intro i
    show (if i < T then (O 8 1 i).toNatClampNeg else 0) ≤ 126
    by_cases hi : i < T
    · rw [if_pos hi]
      exact (e i hi).2.2
    · rw [if_neg hi]
      omega
theorem TX.mk0 {S : Nat → Nat} {T : Nat} {O : XO} {M : MS} (h : TC S T O) (h3 : M.1 3 3 = nI T) (h1 : ∀ j, j < T → M.1 1 j = nI (S j)) : TX S T 0 (upMS M 3 4 (nI 0)) := by
  obtain ⟨t1, t2, t3, t4, t5⟩ := h
  refine ⟨by omega, t1, ?_, up_s, ?_, t4, t5⟩
  · rw [up_n (by omega)]
    exact h3
  · intro j hj
    rw [pu_MS, pu_M1, pu_Rn (by omega)]
    exact h1 j hj
theorem EE.fr {M M2 : MS} (h : EE M M2) : FR M M2 := ⟨fun k _ => by rw [h.1 0 (by omega)], h.1 1 (by omega), fun q _ q4 => h.2.2 q q4⟩
theorem s_carn {c : Nat} {S : Nat → Nat} {T : Nat} {O : XO} {K : RK} {M : MS} (hR : RR c O K M) (h : TC S T O) (h3 : M.1 3 3 = nI T) (h1 : ∀ j, j < T → M.1 1 j = nI (S j)) : ∃ M2 : MS, f_X6_isCarnival M = some (if okk S T 1 0 = true then nI 1 else nI 0, M2) ∧ M2.1 3 4 = nI (fw S T 1 0) ∧ EE M M2 ∧ RR c O K M2 := by
  have hT := h.1
  have hx := TX.mk0 h h3 h1
  obtain ⟨M2, a1, a2, a3⟩ := r_all T 0 fuelN (upMS M 3 4 (nI 0)) (by omega) (by unfold fuelN; omega) hx
  have eE : EE M M2 := (EE.up M (by omega) _).trans a3
  exact ⟨M2, a1, a2, eE, hR.same eE.fr (fun j _ => by rw [eE.1 0 (by omega)])⟩
theorem z_firstError : Sim_firstError RR := by
  intro c O K M hc hR
  obtain ⟨M', a1, hR', a3, a4, a5, a6, a7⟩ := bgn hR
  obtain ⟨S, T, t1, t2, t3⟩ := hR'.2.2.2.S
  have hT := t1.1
  obtain ⟨M2, b1, b2, b3, b4⟩ := s_carn hR' t1 t2 t3
  have f1 := (t_fw t1 T 0 1 fuelN (by omega) (by omega) (by unfold fuelN; omega)).1
  refine ⟨nI (fw S T 1 0), M2, ?_, ?_, b4.mono⟩
  · unfold f_X5_firstError f_X4_firstWrong
    rw [show f_X4_firstWrong_l4 O fuelN 1 0 = _ from f1]
    rfl
  · unfold f_X6_firstError
    rw [show upMS M 3 0 0 = M' from a7.symm, pu_nm, b1, pu_bnd2, b2]
theorem t_has {B n : Nat} {l : Nat → Nat} {K : RK} {M : MS} (h : Rel B n l K (M.1 0)) {g : Nat} (hg : g ≤ 9) : (g < n ∧ f_X1_has K (nI g) = some (nI 1) ∧ f_X6_isGuest M (nI g) = some (nI 1)) ∨ (n ≤ g ∧ f_X1_has K (nI g) = some (nI 0) ∧ f_X6_isGuest M (nI g) = some (nI 0)) := by
  have hn := h.n10
  have e12 := h.1.2.1
  unfold f_X1_has
  rcases t_isG h (nI g) with ⟨a, b⟩ | ⟨g2, hg2, e, a, b⟩
  · right
    have hng : n ≤ g := by
      rcases Nat.lt_or_ge g n with q | q
      · exfalso
        unfold f_needG at a
        rw [e12, if_neg (nI_pos (by omega)), if_neg (nI_ge q (by omega)), if_neg (by decide)] at a
        cases a
      · exact q
    exact ⟨hng, by simp (disch := omega) only [e12, ↓pu_m1, pu_i0, pu_i1, pu_i2, pu_i3, pu_i4, pu_i5, pu_i6, pu_i7, pu_i8, pu_i9, pu_i10, pu_i11, pu_i12, pu_i13, pu_i14, pu_i15, pu_i16, pu_i17, pu_i18, pu_i19, pu_i20, pu_i21, pu_i22, pu_i30, pu_i33, pu_i34, pu_i36, pu_i40, pu_i42, pu_i48, pu_i49, pu_i50, pu_i57, pu_i59, pu_i60, pu_i62, pu_i86, pu_i94, pu_i99, pu_i103, pu_i106, pu_i108, pu_i109, pu_i111, pu_i113, pu_i119, pu_i126, pu_i999, pu_bnd, pu_nm, pu_gd, pu_bnd2, pu_bxl, pu_bxr, pu_inb, pu_at, pu_put, pu_us, pu_un, pu_Rs, pu_Rn, pu_upS, pu_M1, pu_M2, pu_MM, pu_RR, pu_H1, pu_H2, nI_add, pk_mul, pk_sub, nI_clamp, nI_eq, nI_leI, nI_ltI, pu_in, pu_of, pu_lay, pu_ll, pu_il, pu_nI_mI, pu_mI_nI, pu_mm, pu_nn, pu_nI_le_mI, pu_nI_lt_mI, pu_mI_lt, pu_mI_le, pu_inW, pu_inO, if_pos, if_neg, ↓reduceIte], b⟩
  · left
    have := pu_eqE (by omega) (by omega) e
    subst this
    exact ⟨hg2, by simp (disch := omega) only [e12, ↓pu_m1, pu_i0, pu_i1, pu_i2, pu_i3, pu_i4, pu_i5, pu_i6, pu_i7, pu_i8, pu_i9, pu_i10, pu_i11, pu_i12, pu_i13, pu_i14, pu_i15, pu_i16, pu_i17, pu_i18, pu_i19, pu_i20, pu_i21, pu_i22, pu_i30, pu_i33, pu_i34, pu_i36, pu_i40, pu_i42, pu_i48, pu_i49, pu_i50, pu_i57, pu_i59, pu_i60, pu_i62, pu_i86, pu_i94, pu_i99, pu_i103, pu_i106, pu_i108, pu_i109, pu_i111, pu_i113, pu_i119, pu_i126, pu_i999, pu_bnd, pu_nm, pu_gd, pu_bnd2, pu_bxl, pu_bxr, pu_inb, pu_at, pu_put, pu_us, pu_un, pu_Rs, pu_Rn, pu_upS, pu_M1, pu_M2, pu_MM, pu_RR, pu_H1, pu_H2, nI_add, pk_mul, pk_sub, nI_clamp, nI_eq, nI_leI, nI_ltI, pu_in, pu_of, pu_lay, pu_ll, pu_il, pu_nI_mI, pu_mI_nI, pu_mm, pu_nn, pu_nI_le_mI, pu_nI_lt_mI, pu_mI_lt, pu_mI_le, pu_inW, pu_inO, if_pos, if_neg, ↓reduceIte], b⟩
theorem t_digit {S : Nat → Nat} {T i : Nat} {O : XO} (h : TC S T O) (hi : i < 2 ^ 31) : ∃ x : Int32, f_X4_digitAt O (nI i) = some x ∧ ∀ g, g ≤ 9 → S i = 48 + g → x = nI g := by
  have hs := h.2.2.2.2 i
  unfold f_X4_digitAt
  rw [t_sign h hi, pu_bnd, pu_i48, pu_i57, t_wi (S i) 48 57 (by omega) (by omega) (by omega), pu_bnd]
  by_cases q : 48 ≤ S i ∧ S i ≤ 57
  · rw [if_pos q, if_neg n10, pk_sub (by omega)]
    exact ⟨_, rfl, fun g hg e => by rw [e, show 48 + g - 48 = g from by omega]⟩
  · rw [if_neg q, if_pos (show nI 0 = 0 from rfl)]
    exact ⟨_, rfl, fun g hg e => absurd e (by omega)⟩
theorem o_many0 {B n : Nat} {l : Nat → Nat} {O : XO} {K : RK} {w : Nat → Int32} (h : Rel B n l K w) {g t : Nat} (hg : g < 3) (ht : t ≤ 10) (h0 : l g = 0) : ∀ (k q F : Nat), q + k = t → k < F → f_X5_happenPart_l105 O F K (nI g) (nI t) (nI q) = some (0, K) := by
  intro k
  induction k with
  | zero =>
    intro q F hq hF
    obtain ⟨F, rfl⟩ : ∃ q, F = q + 1 := ⟨F - 1, by omega⟩
    rw [show f_X5_happenPart_l105 O (F + 1) K (nI g) (nI t) (nI q) = _ from by unfold f_X5_happenPart_l105; rfl]
    rw [if_pos (nI_le (by omega) (by omega))]
  | succ k ih =>
    intro q F hq hF
    obtain ⟨F, rfl⟩ : ∃ q, F = q + 1 := ⟨F - 1, by omega⟩
    rw [show f_X5_happenPart_l105 O (F + 1) K (nI g) (nI t) (nI q) = _ from by unfold f_X5_happenPart_l105; rfl]
    rw [if_neg (nI_ge (by omega) (by omega)), o_open0 h hg h0, pu_bnd2, pu_nm, pu_i1, nI_add]
    exact ih (q + 1) F (by omega) (by omega)
theorem o_many {O : XO} {g t : Nat} (hg : g < 3) (ht : t ≤ 10) : ∀ (k q F F2 : Nat) (B n : Nat) (l : Nat → Nat) (K : RK) (M : MS), q + k = t → k < F → k < F2 → Rel B n l K (M.1 0) → 360 * (B + k) < 2 ^ 30 - 360 → M.1 3 6 = nI g → M.1 3 7 = nI t → ∃ (K2 : RK) (M2 : MS) (l2 : Nat → Nat), f_X5_happenPart_l105 O F K (nI g) (nI t) (nI q) = some (0, K2) ∧ f_X6_happens_l74 F2 M (nI q) = some M2 ∧ Rel (B + k) n l2 K2 (M2.1 0) ∧ FQ M M2 := by
  intro k
  induction k with
  | zero =>
    intro q F F2 B n l K M hq hF hF2 h hB m6 m7
    obtain ⟨F, rfl⟩ : ∃ q, F = q + 1 := ⟨F - 1, by omega⟩
    obtain ⟨F2, rfl⟩ : ∃ q, F2 = q + 1 := ⟨F2 - 1, by omega⟩
    refine ⟨K, M, l, ?_, ?_, h, FQ.refl M⟩
    · rw [show f_X5_happenPart_l105 O (F + 1) K (nI g) (nI t) (nI q) = _ from by unfold f_X5_happenPart_l105; rfl]
      rw [if_pos (nI_le (by omega) (by omega))]
    · rw [show f_X6_happens_l74 (F2 + 1) M (nI q) = _ from by unfold f_X6_happens_l74; rfl]
      rw [m7, if_pos (nI_le (by omega) (by omega))]
  | succ k ih =>
    intro q F F2 B n l K M hq hF hF2 h hB m6 m7
    obtain ⟨F, rfl⟩ : ∃ q, F = q + 1 := ⟨F - 1, by omega⟩
    obtain ⟨F2, rfl⟩ : ∃ q, F2 = q + 1 := ⟨F2 - 1, by omega⟩
    have aL := (h.2.2.2.2.2.2 g hg).1
    have lg := h.2.2.2.1.2.2.1 g hg
    by_cases z : l g = 0
    · refine ⟨K, M, l, o_many0 h hg ht z (k + 1) q (F + 1) hq hF, ?_, h.mono (by omega), FQ.refl M⟩
      rw [show f_X6_happens_l74 (F2 + 1) M (nI q) = _ from by unfold f_X6_happens_l74; rfl]
      rw [m7, if_neg (nI_ge (by omega) (by omega)), m6, pu_ll hg, pu_bnd, aL, z, if_pos (show nI 0 ≤ 0 from nI_le (a := 0) (b := 0) (by omega) (by omega))]
    · obtain ⟨K2, M2, l2, r, u1, u2, u3, u4⟩ := o_open h (by omega) hg (by omega)
      obtain ⟨K3, M3, l3, v1, v2, v3, v4⟩ := ih (q + 1) F F2 (B + 1) n l2 K2 M2 (by omega) (by omega) (by omega) u3 (by omega) (by rw [u4.2.2]; exact m6) (by rw [u4.2.2]; exact m7)
      refine ⟨K3, M3, l3, ?_, ?_, v3.mono (by omega), u4.trans v4⟩
      · rw [show f_X5_happenPart_l105 O (F + 1) K (nI g) (nI t) (nI q) = _ from by unfold f_X5_happenPart_l105; rfl]
        rw [if_neg (nI_ge (by omega) (by omega)), u1, pu_bnd2, pu_nm, pu_i1, nI_add]
        exact v1
      · rw [show f_X6_happens_l74 (F2 + 1) M (nI q) = _ from by unfold f_X6_happens_l74; rfl]
        rw [m7, if_neg (nI_ge (by omega) (by omega)), m6, pu_ll hg, pu_bnd, aL, if_neg (show ¬ nI (l g) ≤ 0 from nI_ge (a := 0) (b := l g) (by omega) (by omega)), u2, pu_bnd2, pu_nm, pu_i1, nI_add]
        exact v2
theorem o_part {S : Nat → Nat} {T i j : Nat} {O : XO} {B n : Nat} {l : Nat → Nat} {K : RK} {M : MS} (h : Rel B n l K (M.1 0)) (hB : 360 * (B + 10) < 2 ^ 30 - 360) (hT : TC S T O) (hi : i ≤ 60) (p5 : M.1 3 5 = nI (S i)) (hp : PD S i j M) (hj : S j = 59 ∨ j = T) : (∃ r : Nat, 0 < r ∧ r ≤ 10 ∧ f_X5_happenPart O K (nI i) = some (nI r, K) ∧ f_X6_stops M = some (nI r)) ∨ (∃ (K2 : RK) (M2 : MS) (l2 : Nat → Nat), f_X5_happenPart O K (nI i) = some (nI 0, K2) ∧ f_X6_stops M = some (nI 0) ∧ f_X6_happens M = some M2 ∧ Rel (B + 10) n l2 K2 (M2.1 0) ∧ FQ M M2) := by
  have hn := h.n10
  have hs := hT.2.2.2.2 i
  obtain ⟨x1, d1, x1v⟩ := t_digit hT (show i + 1 < 2 ^ 31 by omega)
  obtain ⟨x2, d2, x2v⟩ := t_digit hT (show i + 3 < 2 ^ 31 by omega)
  have ds := t_sign hT (show i < 2 ^ 31 by omega)
  have hb : ∀ (K2 : RK) (r : Int32), (f_X5_happenPart O K (nI i) = some (r, K2)) = ((if nI (S i) = 36 then bnd2 (f_X0_tryPaying K x1) (fun r4 K5 => some (r4, K5)) else (if nI (S i) = 108 then bnd2 (f_X0_tryLoan K x1 x2) (fun r6 K7 => some (r6, K7)) else (if nI (S i) = 109 then bnd2 (f_X0_tryMask K x1) (fun r8 K9 => some (r8, K9)) else (if nI (S i) = 111 then bnd (f_X4_timesAt O (nI i + 2)) (fun r10 => f_X5_happenPart_l105 O fuelN K x1 r10 0) else (if nI (S i) = 113 then bnd2 (f_X0_tryLine K x1 x2) (fun r11 K12 => some (r11, K12)) else (bnd2 (f_X0_endNight K) (fun r13 K14 => some (0, K14)))))))) = some (r, K2)) := by
    intro K2 r
    unfold f_X5_happenPart
    rw [pu_i1, pu_i3, nI_add, nI_add, d1, pu_bnd, d2, pu_bnd, ds, pu_bnd]
  have id2 : ∀ {x : Option (Int32 × RK)} {r : Int32} {K2 : RK}, x = some (r, K2) → bnd2 x (fun a b => some (a, b)) = some (r, K2) := by
    intro x r K2 e
    rw [e]
    rfl
  rcases hp with ⟨w, -⟩ | ⟨w, g, t, hg, ht, g1, g6, g7, hm⟩ | ⟨w, g, hg, g1, g6, hm⟩ | ⟨w, g, o, hg, ho, ho3, g1, g2, g3, g6, g7, hm⟩
  · right
    obtain ⟨K2, M2, l2, r, u1, u2, u3, u4⟩ := o_night h (by omega)
    rw [w] at p5
    refine ⟨K2, M2, l2, ?_, ?_, ?_, u3.mono (by omega), u4⟩
    · rw [hb, w]
      simp (disch := omega) only [u1, ↓pu_m1, pu_i0, pu_i1, pu_i2, pu_i3, pu_i4, pu_i5, pu_i6, pu_i7, pu_i8, pu_i9, pu_i10, pu_i11, pu_i12, pu_i13, pu_i14, pu_i15, pu_i16, pu_i17, pu_i18, pu_i19, pu_i20, pu_i21, pu_i22, pu_i30, pu_i33, pu_i34, pu_i36, pu_i40, pu_i42, pu_i48, pu_i49, pu_i50, pu_i57, pu_i59, pu_i60, pu_i62, pu_i86, pu_i94, pu_i99, pu_i103, pu_i106, pu_i108, pu_i109, pu_i111, pu_i113, pu_i119, pu_i126, pu_i999, pu_bnd, pu_nm, pu_gd, pu_bnd2, pu_bxl, pu_bxr, pu_inb, pu_at, pu_put, pu_us, pu_un, pu_Rs, pu_Rn, pu_upS, pu_M1, pu_M2, pu_MM, pu_RR, pu_H1, pu_H2, nI_add, pk_mul, pk_sub, nI_clamp, nI_eq, nI_leI, nI_ltI, pu_in, pu_of, pu_lay, pu_ll, pu_il, pu_nI_mI, pu_mI_nI, pu_mm, pu_nn, pu_nI_le_mI, pu_nI_lt_mI, pu_mI_lt, pu_mI_le, pu_inW, pu_inO, if_pos, if_neg, ↓reduceIte]
    · unfold f_X6_stops f_X6_stops_b49 f_X6_stops_b54
      simp (disch := omega) only [p5, ↓pu_m1, pu_i0, pu_i1, pu_i2, pu_i3, pu_i4, pu_i5, pu_i6, pu_i7, pu_i8, pu_i9, pu_i10, pu_i11, pu_i12, pu_i13, pu_i14, pu_i15, pu_i16, pu_i17, pu_i18, pu_i19, pu_i20, pu_i21, pu_i22, pu_i30, pu_i33, pu_i34, pu_i36, pu_i40, pu_i42, pu_i48, pu_i49, pu_i50, pu_i57, pu_i59, pu_i60, pu_i62, pu_i86, pu_i94, pu_i99, pu_i103, pu_i106, pu_i108, pu_i109, pu_i111, pu_i113, pu_i119, pu_i126, pu_i999, pu_bnd, pu_nm, pu_gd, pu_bnd2, pu_bxl, pu_bxr, pu_inb, pu_at, pu_put, pu_us, pu_un, pu_Rs, pu_Rn, pu_upS, pu_M1, pu_M2, pu_MM, pu_RR, pu_H1, pu_H2, nI_add, pk_mul, pk_sub, nI_clamp, nI_eq, nI_leI, nI_ltI, pu_in, pu_of, pu_lay, pu_ll, pu_il, pu_nI_mI, pu_mI_nI, pu_mm, pu_nn, pu_nI_le_mI, pu_nI_lt_mI, pu_mI_lt, pu_mI_le, pu_inW, pu_inO, if_pos, if_neg, ↓reduceIte]
    · unfold f_X6_happens
      simp (disch := omega) only [p5, u2, ↓pu_m1, pu_i0, pu_i1, pu_i2, pu_i3, pu_i4, pu_i5, pu_i6, pu_i7, pu_i8, pu_i9, pu_i10, pu_i11, pu_i12, pu_i13, pu_i14, pu_i15, pu_i16, pu_i17, pu_i18, pu_i19, pu_i20, pu_i21, pu_i22, pu_i30, pu_i33, pu_i34, pu_i36, pu_i40, pu_i42, pu_i48, pu_i49, pu_i50, pu_i57, pu_i59, pu_i60, pu_i62, pu_i86, pu_i94, pu_i99, pu_i103, pu_i106, pu_i108, pu_i109, pu_i111, pu_i113, pu_i119, pu_i126, pu_i999, pu_bnd, pu_nm, pu_gd, pu_bnd2, pu_bxl, pu_bxr, pu_inb, pu_at, pu_put, pu_us, pu_un, pu_Rs, pu_Rn, pu_upS, pu_M1, pu_M2, pu_MM, pu_RR, pu_H1, pu_H2, nI_add, pk_mul, pk_sub, nI_clamp, nI_eq, nI_leI, nI_ltI, pu_in, pu_of, pu_lay, pu_ll, pu_il, pu_nI_mI, pu_mI_nI, pu_mm, pu_nn, pu_nI_le_mI, pu_nI_lt_mI, pu_mI_lt, pu_mI_le, pu_inW, pu_inO, if_pos, if_neg, ↓reduceIte]
  · right
    have e1 := x1v g (by omega) g1
    subst e1
    obtain ⟨K2, M2, l2, u1, u2, u3, u4⟩ := o_many (O := O) hg ht t 0 fuelN fuelN B n l K M (by omega) (by unfold fuelN; omega) (by unfold fuelN; omega) h (by omega) g6 g7
    have tm : f_X4_timesAt O (nI i + 2) = some (nI t) := by
      obtain ⟨x3, d3, x3v⟩ := t_digit hT (show i + 2 + 1 < 2 ^ 31 by omega)
      have s2 := t_sign hT (show i + 2 < 2 ^ 31 by omega)
      have s4 := t_sign hT (show i + 2 + 2 < 2 ^ 31 by omega)
      have b2 := hT.2.2.2.2 (i + 2)
      have b4 := hT.2.2.2.2 (i + 2 + 2)
      unfold f_X4_timesAt
      rw [pu_i2, pu_i1, nI_add, s2, pu_bnd]
      rcases hm with ⟨w1, w2, w3⟩ | ⟨w1, w2, w3, w4, w5⟩ | ⟨w1, w2, w3, w4, w5⟩
      · rw [if_neg (by rw [pu_i42, nI_eq (by omega) (by omega)]; exact w2), w3]
      · have h4 : S (i + 2 + 2) ≠ 48 := by
          rcases hj with q | q
          · rw [w5] at q
            rw [show i + 2 + 2 = i + 4 from rfl, q]
            omega
          · have := hT.2.2.2.1 (i + 2 + 2) (by omega)
            omega
        rw [w1, if_pos (show nI 42 = 42 from rfl), nI_add, s4, pu_bnd, if_neg (by rw [pu_i48, nI_eq (by omega) (by omega)]; exact h4), nI_add, d3, pu_bnd, x3v t (by omega) w2]
      · rw [w1, if_pos (show nI 42 = 42 from rfl), nI_add, s4, pu_bnd, show S (i + 2 + 2) = 48 from w3, if_pos (show nI 48 = 48 from rfl), w4]
        rfl
    rw [w] at p5
    refine ⟨K2, M2, l2, ?_, ?_, ?_, u3.mono (by omega), u4⟩
    · rw [hb, w]
      have tm2 : f_X4_timesAt O (nI (i + 2)) = some (nI t) := by
        rw [← nI_add]
        exact tm
      simp (disch := omega) only [tm2, ↓pu_m1, pu_i0, pu_i1, pu_i2, pu_i3, pu_i4, pu_i5, pu_i6, pu_i7, pu_i8, pu_i9, pu_i10, pu_i11, pu_i12, pu_i13, pu_i14, pu_i15, pu_i16, pu_i17, pu_i18, pu_i19, pu_i20, pu_i21, pu_i22, pu_i30, pu_i33, pu_i34, pu_i36, pu_i40, pu_i42, pu_i48, pu_i49, pu_i50, pu_i57, pu_i59, pu_i60, pu_i62, pu_i86, pu_i94, pu_i99, pu_i103, pu_i106, pu_i108, pu_i109, pu_i111, pu_i113, pu_i119, pu_i126, pu_i999, pu_bnd, pu_nm, pu_gd, pu_bnd2, pu_bxl, pu_bxr, pu_inb, pu_at, pu_put, pu_us, pu_un, pu_Rs, pu_Rn, pu_upS, pu_M1, pu_M2, pu_MM, pu_RR, pu_H1, pu_H2, nI_add, pk_mul, pk_sub, nI_clamp, nI_eq, nI_leI, nI_ltI, pu_in, pu_of, pu_lay, pu_ll, pu_il, pu_nI_mI, pu_mI_nI, pu_mm, pu_nn, pu_nI_le_mI, pu_nI_lt_mI, pu_mI_lt, pu_mI_le, pu_inW, pu_inO, if_pos, if_neg, ↓reduceIte]
      exact u1
    · unfold f_X6_stops f_X6_stops_b49 f_X6_stops_b54
      simp (disch := omega) only [p5, ↓pu_m1, pu_i0, pu_i1, pu_i2, pu_i3, pu_i4, pu_i5, pu_i6, pu_i7, pu_i8, pu_i9, pu_i10, pu_i11, pu_i12, pu_i13, pu_i14, pu_i15, pu_i16, pu_i17, pu_i18, pu_i19, pu_i20, pu_i21, pu_i22, pu_i30, pu_i33, pu_i34, pu_i36, pu_i40, pu_i42, pu_i48, pu_i49, pu_i50, pu_i57, pu_i59, pu_i60, pu_i62, pu_i86, pu_i94, pu_i99, pu_i103, pu_i106, pu_i108, pu_i109, pu_i111, pu_i113, pu_i119, pu_i126, pu_i999, pu_bnd, pu_nm, pu_gd, pu_bnd2, pu_bxl, pu_bxr, pu_inb, pu_at, pu_put, pu_us, pu_un, pu_Rs, pu_Rn, pu_upS, pu_M1, pu_M2, pu_MM, pu_RR, pu_H1, pu_H2, nI_add, pk_mul, pk_sub, nI_clamp, nI_eq, nI_leI, nI_ltI, pu_in, pu_of, pu_lay, pu_ll, pu_il, pu_nI_mI, pu_mI_nI, pu_mm, pu_nn, pu_nI_le_mI, pu_nI_lt_mI, pu_mI_lt, pu_mI_le, pu_inW, pu_inO, if_pos, if_neg, ↓reduceIte]
    · unfold f_X6_happens
      simp (disch := omega) only [p5, ↓pu_m1, pu_i0, pu_i1, pu_i2, pu_i3, pu_i4, pu_i5, pu_i6, pu_i7, pu_i8, pu_i9, pu_i10, pu_i11, pu_i12, pu_i13, pu_i14, pu_i15, pu_i16, pu_i17, pu_i18, pu_i19, pu_i20, pu_i21, pu_i22, pu_i30, pu_i33, pu_i34, pu_i36, pu_i40, pu_i42, pu_i48, pu_i49, pu_i50, pu_i57, pu_i59, pu_i60, pu_i62, pu_i86, pu_i94, pu_i99, pu_i103, pu_i106, pu_i108, pu_i109, pu_i111, pu_i113, pu_i119, pu_i126, pu_i999, pu_bnd, pu_nm, pu_gd, pu_bnd2, pu_bxl, pu_bxr, pu_inb, pu_at, pu_put, pu_us, pu_un, pu_Rs, pu_Rn, pu_upS, pu_M1, pu_M2, pu_MM, pu_RR, pu_H1, pu_H2, nI_add, pk_mul, pk_sub, nI_clamp, nI_eq, nI_leI, nI_ltI, pu_in, pu_of, pu_lay, pu_ll, pu_il, pu_nI_mI, pu_mI_nI, pu_mm, pu_nn, pu_nI_le_mI, pu_nI_lt_mI, pu_mI_lt, pu_mI_le, pu_inW, pu_inO, if_pos, if_neg, ↓reduceIte]
      exact u2
  · have e1 := x1v g (by omega) g1
    subst e1
    rcases w with w | w
    · rw [w] at p5
      rcases t_has h hg with ⟨q1, q2, q3⟩ | ⟨q1, q2, q3⟩
      · obtain ⟨r, hr, t1, t2, t3⟩ := t_noMask h q1
        by_cases z : r = 0
        · subst z
          obtain ⟨p, s1, s2, s3⟩ := t3 rfl
          obtain ⟨K2, M2, r, u1, u2, u3, u4, u5⟩ := o_mask h q1 s1 s2 s3
          right
          refine ⟨K2, M2, l, ?_, ?_, ?_, u4.mono (by omega), u5⟩
          · rw [hb, w]
            simp (disch := omega) only [f_X0_tryMask, q2, t1, f_X0_tryMask_b21, u1, ↓pu_m1, pu_i0, pu_i1, pu_i2, pu_i3, pu_i4, pu_i5, pu_i6, pu_i7, pu_i8, pu_i9, pu_i10, pu_i11, pu_i12, pu_i13, pu_i14, pu_i15, pu_i16, pu_i17, pu_i18, pu_i19, pu_i20, pu_i21, pu_i22, pu_i30, pu_i33, pu_i34, pu_i36, pu_i40, pu_i42, pu_i48, pu_i49, pu_i50, pu_i57, pu_i59, pu_i60, pu_i62, pu_i86, pu_i94, pu_i99, pu_i103, pu_i106, pu_i108, pu_i109, pu_i111, pu_i113, pu_i119, pu_i126, pu_i999, pu_bnd, pu_nm, pu_gd, pu_bnd2, pu_bxl, pu_bxr, pu_inb, pu_at, pu_put, pu_us, pu_un, pu_Rs, pu_Rn, pu_upS, pu_M1, pu_M2, pu_MM, pu_RR, pu_H1, pu_H2, nI_add, pk_mul, pk_sub, nI_clamp, nI_eq, nI_leI, nI_ltI, pu_in, pu_of, pu_lay, pu_ll, pu_il, pu_nI_mI, pu_mI_nI, pu_mm, pu_nn, pu_nI_le_mI, pu_nI_lt_mI, pu_mI_lt, pu_mI_le, pu_inW, pu_inO, if_pos, if_neg, ↓reduceIte]
          · unfold f_X6_stops f_X6_stops_b49 f_X6_stops_b54
            simp (disch := omega) only [p5, g6, q3, t2, ↓pu_m1, pu_i0, pu_i1, pu_i2, pu_i3, pu_i4, pu_i5, pu_i6, pu_i7, pu_i8, pu_i9, pu_i10, pu_i11, pu_i12, pu_i13, pu_i14, pu_i15, pu_i16, pu_i17, pu_i18, pu_i19, pu_i20, pu_i21, pu_i22, pu_i30, pu_i33, pu_i34, pu_i36, pu_i40, pu_i42, pu_i48, pu_i49, pu_i50, pu_i57, pu_i59, pu_i60, pu_i62, pu_i86, pu_i94, pu_i99, pu_i103, pu_i106, pu_i108, pu_i109, pu_i111, pu_i113, pu_i119, pu_i126, pu_i999, pu_bnd, pu_nm, pu_gd, pu_bnd2, pu_bxl, pu_bxr, pu_inb, pu_at, pu_put, pu_us, pu_un, pu_Rs, pu_Rn, pu_upS, pu_M1, pu_M2, pu_MM, pu_RR, pu_H1, pu_H2, nI_add, pk_mul, pk_sub, nI_clamp, nI_eq, nI_leI, nI_ltI, pu_in, pu_of, pu_lay, pu_ll, pu_il, pu_nI_mI, pu_mI_nI, pu_mm, pu_nn, pu_nI_le_mI, pu_nI_lt_mI, pu_mI_lt, pu_mI_le, pu_inW, pu_inO, if_pos, if_neg, ↓reduceIte]
          · unfold f_X6_happens
            simp (disch := omega) only [p5, g6, u3, ↓pu_m1, pu_i0, pu_i1, pu_i2, pu_i3, pu_i4, pu_i5, pu_i6, pu_i7, pu_i8, pu_i9, pu_i10, pu_i11, pu_i12, pu_i13, pu_i14, pu_i15, pu_i16, pu_i17, pu_i18, pu_i19, pu_i20, pu_i21, pu_i22, pu_i30, pu_i33, pu_i34, pu_i36, pu_i40, pu_i42, pu_i48, pu_i49, pu_i50, pu_i57, pu_i59, pu_i60, pu_i62, pu_i86, pu_i94, pu_i99, pu_i103, pu_i106, pu_i108, pu_i109, pu_i111, pu_i113, pu_i119, pu_i126, pu_i999, pu_bnd, pu_nm, pu_gd, pu_bnd2, pu_bxl, pu_bxr, pu_inb, pu_at, pu_put, pu_us, pu_un, pu_Rs, pu_Rn, pu_upS, pu_M1, pu_M2, pu_MM, pu_RR, pu_H1, pu_H2, nI_add, pk_mul, pk_sub, nI_clamp, nI_eq, nI_leI, nI_ltI, pu_in, pu_of, pu_lay, pu_ll, pu_il, pu_nI_mI, pu_mI_nI, pu_mm, pu_nn, pu_nI_le_mI, pu_nI_lt_mI, pu_mI_lt, pu_mI_le, pu_inW, pu_inO, if_pos, if_neg, ↓reduceIte]
        · left
          refine ⟨r, by omega, by omega, ?_, ?_⟩
          · rw [hb, w]
            simp (disch := omega) only [f_X0_tryMask, q2, t1, f_X0_tryMask_b21, ↓pu_m1, pu_i0, pu_i1, pu_i2, pu_i3, pu_i4, pu_i5, pu_i6, pu_i7, pu_i8, pu_i9, pu_i10, pu_i11, pu_i12, pu_i13, pu_i14, pu_i15, pu_i16, pu_i17, pu_i18, pu_i19, pu_i20, pu_i21, pu_i22, pu_i30, pu_i33, pu_i34, pu_i36, pu_i40, pu_i42, pu_i48, pu_i49, pu_i50, pu_i57, pu_i59, pu_i60, pu_i62, pu_i86, pu_i94, pu_i99, pu_i103, pu_i106, pu_i108, pu_i109, pu_i111, pu_i113, pu_i119, pu_i126, pu_i999, pu_bnd, pu_nm, pu_gd, pu_bnd2, pu_bxl, pu_bxr, pu_inb, pu_at, pu_put, pu_us, pu_un, pu_Rs, pu_Rn, pu_upS, pu_M1, pu_M2, pu_MM, pu_RR, pu_H1, pu_H2, nI_add, pk_mul, pk_sub, nI_clamp, nI_eq, nI_leI, nI_ltI, pu_in, pu_of, pu_lay, pu_ll, pu_il, pu_nI_mI, pu_mI_nI, pu_mm, pu_nn, pu_nI_le_mI, pu_nI_lt_mI, pu_mI_lt, pu_mI_le, pu_inW, pu_inO, if_pos, if_neg, ↓reduceIte]
          · unfold f_X6_stops f_X6_stops_b49 f_X6_stops_b54
            simp (disch := omega) only [p5, g6, q3, t2, ↓pu_m1, pu_i0, pu_i1, pu_i2, pu_i3, pu_i4, pu_i5, pu_i6, pu_i7, pu_i8, pu_i9, pu_i10, pu_i11, pu_i12, pu_i13, pu_i14, pu_i15, pu_i16, pu_i17, pu_i18, pu_i19, pu_i20, pu_i21, pu_i22, pu_i30, pu_i33, pu_i34, pu_i36, pu_i40, pu_i42, pu_i48, pu_i49, pu_i50, pu_i57, pu_i59, pu_i60, pu_i62, pu_i86, pu_i94, pu_i99, pu_i103, pu_i106, pu_i108, pu_i109, pu_i111, pu_i113, pu_i119, pu_i126, pu_i999, pu_bnd, pu_nm, pu_gd, pu_bnd2, pu_bxl, pu_bxr, pu_inb, pu_at, pu_put, pu_us, pu_un, pu_Rs, pu_Rn, pu_upS, pu_M1, pu_M2, pu_MM, pu_RR, pu_H1, pu_H2, nI_add, pk_mul, pk_sub, nI_clamp, nI_eq, nI_leI, nI_ltI, pu_in, pu_of, pu_lay, pu_ll, pu_il, pu_nI_mI, pu_mI_nI, pu_mm, pu_nn, pu_nI_le_mI, pu_nI_lt_mI, pu_mI_lt, pu_mI_le, pu_inW, pu_inO, if_pos, if_neg, ↓reduceIte]
      · left
        refine ⟨10, by omega, by omega, ?_, ?_⟩
        · rw [hb, w]
          simp (disch := omega) only [f_X0_tryMask, q2, f_X0_tryMask_b21, ↓pu_m1, pu_i0, pu_i1, pu_i2, pu_i3, pu_i4, pu_i5, pu_i6, pu_i7, pu_i8, pu_i9, pu_i10, pu_i11, pu_i12, pu_i13, pu_i14, pu_i15, pu_i16, pu_i17, pu_i18, pu_i19, pu_i20, pu_i21, pu_i22, pu_i30, pu_i33, pu_i34, pu_i36, pu_i40, pu_i42, pu_i48, pu_i49, pu_i50, pu_i57, pu_i59, pu_i60, pu_i62, pu_i86, pu_i94, pu_i99, pu_i103, pu_i106, pu_i108, pu_i109, pu_i111, pu_i113, pu_i119, pu_i126, pu_i999, pu_bnd, pu_nm, pu_gd, pu_bnd2, pu_bxl, pu_bxr, pu_inb, pu_at, pu_put, pu_us, pu_un, pu_Rs, pu_Rn, pu_upS, pu_M1, pu_M2, pu_MM, pu_RR, pu_H1, pu_H2, nI_add, pk_mul, pk_sub, nI_clamp, nI_eq, nI_leI, nI_ltI, pu_in, pu_of, pu_lay, pu_ll, pu_il, pu_nI_mI, pu_mI_nI, pu_mm, pu_nn, pu_nI_le_mI, pu_nI_lt_mI, pu_mI_lt, pu_mI_le, pu_inW, pu_inO, if_pos, if_neg, ↓reduceIte]
        · unfold f_X6_stops f_X6_stops_b53 f_X6_stops_b54
          simp (disch := omega) only [p5, g6, q3, ↓pu_m1, pu_i0, pu_i1, pu_i2, pu_i3, pu_i4, pu_i5, pu_i6, pu_i7, pu_i8, pu_i9, pu_i10, pu_i11, pu_i12, pu_i13, pu_i14, pu_i15, pu_i16, pu_i17, pu_i18, pu_i19, pu_i20, pu_i21, pu_i22, pu_i30, pu_i33, pu_i34, pu_i36, pu_i40, pu_i42, pu_i48, pu_i49, pu_i50, pu_i57, pu_i59, pu_i60, pu_i62, pu_i86, pu_i94, pu_i99, pu_i103, pu_i106, pu_i108, pu_i109, pu_i111, pu_i113, pu_i119, pu_i126, pu_i999, pu_bnd, pu_nm, pu_gd, pu_bnd2, pu_bxl, pu_bxr, pu_inb, pu_at, pu_put, pu_us, pu_un, pu_Rs, pu_Rn, pu_upS, pu_M1, pu_M2, pu_MM, pu_RR, pu_H1, pu_H2, nI_add, pk_mul, pk_sub, nI_clamp, nI_eq, nI_leI, nI_ltI, pu_in, pu_of, pu_lay, pu_ll, pu_il, pu_nI_mI, pu_mI_nI, pu_mm, pu_nn, pu_nI_le_mI, pu_nI_lt_mI, pu_mI_lt, pu_mI_le, pu_inW, pu_inO, if_pos, if_neg, ↓reduceIte]
    · rw [w] at p5
      rcases t_has h hg with ⟨q1, q2, q3⟩ | ⟨q1, q2, q3⟩
      · obtain ⟨K2, M2, r, u1, u2, u3, u4, u5⟩ := o_pay h (by omega) q1
        right
        refine ⟨K2, M2, l, ?_, ?_, ?_, u4.mono (by omega), u5⟩
        · rw [hb, w]
          simp (disch := omega) only [f_X0_tryPaying, q2, u1, ↓pu_m1, pu_i0, pu_i1, pu_i2, pu_i3, pu_i4, pu_i5, pu_i6, pu_i7, pu_i8, pu_i9, pu_i10, pu_i11, pu_i12, pu_i13, pu_i14, pu_i15, pu_i16, pu_i17, pu_i18, pu_i19, pu_i20, pu_i21, pu_i22, pu_i30, pu_i33, pu_i34, pu_i36, pu_i40, pu_i42, pu_i48, pu_i49, pu_i50, pu_i57, pu_i59, pu_i60, pu_i62, pu_i86, pu_i94, pu_i99, pu_i103, pu_i106, pu_i108, pu_i109, pu_i111, pu_i113, pu_i119, pu_i126, pu_i999, pu_bnd, pu_nm, pu_gd, pu_bnd2, pu_bxl, pu_bxr, pu_inb, pu_at, pu_put, pu_us, pu_un, pu_Rs, pu_Rn, pu_upS, pu_M1, pu_M2, pu_MM, pu_RR, pu_H1, pu_H2, nI_add, pk_mul, pk_sub, nI_clamp, nI_eq, nI_leI, nI_ltI, pu_in, pu_of, pu_lay, pu_ll, pu_il, pu_nI_mI, pu_mI_nI, pu_mm, pu_nn, pu_nI_le_mI, pu_nI_lt_mI, pu_mI_lt, pu_mI_le, pu_inW, pu_inO, if_pos, if_neg, ↓reduceIte]
        · unfold f_X6_stops f_X6_stops_b49 f_X6_stops_b54
          simp (disch := omega) only [p5, g6, q3, ↓pu_m1, pu_i0, pu_i1, pu_i2, pu_i3, pu_i4, pu_i5, pu_i6, pu_i7, pu_i8, pu_i9, pu_i10, pu_i11, pu_i12, pu_i13, pu_i14, pu_i15, pu_i16, pu_i17, pu_i18, pu_i19, pu_i20, pu_i21, pu_i22, pu_i30, pu_i33, pu_i34, pu_i36, pu_i40, pu_i42, pu_i48, pu_i49, pu_i50, pu_i57, pu_i59, pu_i60, pu_i62, pu_i86, pu_i94, pu_i99, pu_i103, pu_i106, pu_i108, pu_i109, pu_i111, pu_i113, pu_i119, pu_i126, pu_i999, pu_bnd, pu_nm, pu_gd, pu_bnd2, pu_bxl, pu_bxr, pu_inb, pu_at, pu_put, pu_us, pu_un, pu_Rs, pu_Rn, pu_upS, pu_M1, pu_M2, pu_MM, pu_RR, pu_H1, pu_H2, nI_add, pk_mul, pk_sub, nI_clamp, nI_eq, nI_leI, nI_ltI, pu_in, pu_of, pu_lay, pu_ll, pu_il, pu_nI_mI, pu_mI_nI, pu_mm, pu_nn, pu_nI_le_mI, pu_nI_lt_mI, pu_mI_lt, pu_mI_le, pu_inW, pu_inO, if_pos, if_neg, ↓reduceIte]
        · unfold f_X6_happens
          simp (disch := omega) only [p5, g6, u3, ↓pu_m1, pu_i0, pu_i1, pu_i2, pu_i3, pu_i4, pu_i5, pu_i6, pu_i7, pu_i8, pu_i9, pu_i10, pu_i11, pu_i12, pu_i13, pu_i14, pu_i15, pu_i16, pu_i17, pu_i18, pu_i19, pu_i20, pu_i21, pu_i22, pu_i30, pu_i33, pu_i34, pu_i36, pu_i40, pu_i42, pu_i48, pu_i49, pu_i50, pu_i57, pu_i59, pu_i60, pu_i62, pu_i86, pu_i94, pu_i99, pu_i103, pu_i106, pu_i108, pu_i109, pu_i111, pu_i113, pu_i119, pu_i126, pu_i999, pu_bnd, pu_nm, pu_gd, pu_bnd2, pu_bxl, pu_bxr, pu_inb, pu_at, pu_put, pu_us, pu_un, pu_Rs, pu_Rn, pu_upS, pu_M1, pu_M2, pu_MM, pu_RR, pu_H1, pu_H2, nI_add, pk_mul, pk_sub, nI_clamp, nI_eq, nI_leI, nI_ltI, pu_in, pu_of, pu_lay, pu_ll, pu_il, pu_nI_mI, pu_mI_nI, pu_mm, pu_nn, pu_nI_le_mI, pu_nI_lt_mI, pu_mI_lt, pu_mI_le, pu_inW, pu_inO, if_pos, if_neg, ↓reduceIte]
      · left
        refine ⟨10, by omega, by omega, ?_, ?_⟩
        · rw [hb, w]
          simp (disch := omega) only [f_X0_tryPaying, q2, ↓pu_m1, pu_i0, pu_i1, pu_i2, pu_i3, pu_i4, pu_i5, pu_i6, pu_i7, pu_i8, pu_i9, pu_i10, pu_i11, pu_i12, pu_i13, pu_i14, pu_i15, pu_i16, pu_i17, pu_i18, pu_i19, pu_i20, pu_i21, pu_i22, pu_i30, pu_i33, pu_i34, pu_i36, pu_i40, pu_i42, pu_i48, pu_i49, pu_i50, pu_i57, pu_i59, pu_i60, pu_i62, pu_i86, pu_i94, pu_i99, pu_i103, pu_i106, pu_i108, pu_i109, pu_i111, pu_i113, pu_i119, pu_i126, pu_i999, pu_bnd, pu_nm, pu_gd, pu_bnd2, pu_bxl, pu_bxr, pu_inb, pu_at, pu_put, pu_us, pu_un, pu_Rs, pu_Rn, pu_upS, pu_M1, pu_M2, pu_MM, pu_RR, pu_H1, pu_H2, nI_add, pk_mul, pk_sub, nI_clamp, nI_eq, nI_leI, nI_ltI, pu_in, pu_of, pu_lay, pu_ll, pu_il, pu_nI_mI, pu_mI_nI, pu_mm, pu_nn, pu_nI_le_mI, pu_nI_lt_mI, pu_mI_lt, pu_mI_le, pu_inW, pu_inO, if_pos, if_neg, ↓reduceIte]
        · unfold f_X6_stops f_X6_stops_b53 f_X6_stops_b54
          simp (disch := omega) only [p5, g6, q3, ↓pu_m1, pu_i0, pu_i1, pu_i2, pu_i3, pu_i4, pu_i5, pu_i6, pu_i7, pu_i8, pu_i9, pu_i10, pu_i11, pu_i12, pu_i13, pu_i14, pu_i15, pu_i16, pu_i17, pu_i18, pu_i19, pu_i20, pu_i21, pu_i22, pu_i30, pu_i33, pu_i34, pu_i36, pu_i40, pu_i42, pu_i48, pu_i49, pu_i50, pu_i57, pu_i59, pu_i60, pu_i62, pu_i86, pu_i94, pu_i99, pu_i103, pu_i106, pu_i108, pu_i109, pu_i111, pu_i113, pu_i119, pu_i126, pu_i999, pu_bnd, pu_nm, pu_gd, pu_bnd2, pu_bxl, pu_bxr, pu_inb, pu_at, pu_put, pu_us, pu_un, pu_Rs, pu_Rn, pu_upS, pu_M1, pu_M2, pu_MM, pu_RR, pu_H1, pu_H2, nI_add, pk_mul, pk_sub, nI_clamp, nI_eq, nI_leI, nI_ltI, pu_in, pu_of, pu_lay, pu_ll, pu_il, pu_nI_mI, pu_mI_nI, pu_mm, pu_nn, pu_nI_le_mI, pu_nI_lt_mI, pu_mI_lt, pu_mI_le, pu_inW, pu_inO, if_pos, if_neg, ↓reduceIte]
  · have e1 := x1v g (by omega) g1
    subst e1
    have e2 := x2v o (by omega) g3
    subst e2
    rcases w with w | w
    · rw [w] at p5
      have ho3' := ho3 w
      rcases t_has h hg with ⟨q1, q2, q3⟩ | ⟨q1, q2, q3⟩
      · obtain ⟨r, hr, t1, t2, t3⟩ := t_noLine h (by omega) q1
        by_cases z : r = 0
        · subst z
          obtain ⟨K2, M2, l2, r, u1, u3, u4, u5⟩ := o_queue h q1 ho3' (t3 rfl)
          right
          refine ⟨K2, M2, l2, ?_, ?_, ?_, u4.mono (by omega), u5⟩
          · rw [hb, w]
            simp (disch := omega) only [f_X0_tryLine, q2, t1, f_X0_tryLine_b21, u1, ↓pu_m1, pu_i0, pu_i1, pu_i2, pu_i3, pu_i4, pu_i5, pu_i6, pu_i7, pu_i8, pu_i9, pu_i10, pu_i11, pu_i12, pu_i13, pu_i14, pu_i15, pu_i16, pu_i17, pu_i18, pu_i19, pu_i20, pu_i21, pu_i22, pu_i30, pu_i33, pu_i34, pu_i36, pu_i40, pu_i42, pu_i48, pu_i49, pu_i50, pu_i57, pu_i59, pu_i60, pu_i62, pu_i86, pu_i94, pu_i99, pu_i103, pu_i106, pu_i108, pu_i109, pu_i111, pu_i113, pu_i119, pu_i126, pu_i999, pu_bnd, pu_nm, pu_gd, pu_bnd2, pu_bxl, pu_bxr, pu_inb, pu_at, pu_put, pu_us, pu_un, pu_Rs, pu_Rn, pu_upS, pu_M1, pu_M2, pu_MM, pu_RR, pu_H1, pu_H2, nI_add, pk_mul, pk_sub, nI_clamp, nI_eq, nI_leI, nI_ltI, pu_in, pu_of, pu_lay, pu_ll, pu_il, pu_nI_mI, pu_mI_nI, pu_mm, pu_nn, pu_nI_le_mI, pu_nI_lt_mI, pu_mI_lt, pu_mI_le, pu_inW, pu_inO, if_pos, if_neg, ↓reduceIte]
          · unfold f_X6_stops f_X6_stops_b49 f_X6_stops_b54
            simp (disch := omega) only [p5, g6, q3, t2, ↓pu_m1, pu_i0, pu_i1, pu_i2, pu_i3, pu_i4, pu_i5, pu_i6, pu_i7, pu_i8, pu_i9, pu_i10, pu_i11, pu_i12, pu_i13, pu_i14, pu_i15, pu_i16, pu_i17, pu_i18, pu_i19, pu_i20, pu_i21, pu_i22, pu_i30, pu_i33, pu_i34, pu_i36, pu_i40, pu_i42, pu_i48, pu_i49, pu_i50, pu_i57, pu_i59, pu_i60, pu_i62, pu_i86, pu_i94, pu_i99, pu_i103, pu_i106, pu_i108, pu_i109, pu_i111, pu_i113, pu_i119, pu_i126, pu_i999, pu_bnd, pu_nm, pu_gd, pu_bnd2, pu_bxl, pu_bxr, pu_inb, pu_at, pu_put, pu_us, pu_un, pu_Rs, pu_Rn, pu_upS, pu_M1, pu_M2, pu_MM, pu_RR, pu_H1, pu_H2, nI_add, pk_mul, pk_sub, nI_clamp, nI_eq, nI_leI, nI_ltI, pu_in, pu_of, pu_lay, pu_ll, pu_il, pu_nI_mI, pu_mI_nI, pu_mm, pu_nn, pu_nI_le_mI, pu_nI_lt_mI, pu_mI_lt, pu_mI_le, pu_inW, pu_inO, if_pos, if_neg, ↓reduceIte]
          · unfold f_X6_happens
            simp (disch := omega) only [p5, g6, g7, u3, ↓pu_m1, pu_i0, pu_i1, pu_i2, pu_i3, pu_i4, pu_i5, pu_i6, pu_i7, pu_i8, pu_i9, pu_i10, pu_i11, pu_i12, pu_i13, pu_i14, pu_i15, pu_i16, pu_i17, pu_i18, pu_i19, pu_i20, pu_i21, pu_i22, pu_i30, pu_i33, pu_i34, pu_i36, pu_i40, pu_i42, pu_i48, pu_i49, pu_i50, pu_i57, pu_i59, pu_i60, pu_i62, pu_i86, pu_i94, pu_i99, pu_i103, pu_i106, pu_i108, pu_i109, pu_i111, pu_i113, pu_i119, pu_i126, pu_i999, pu_bnd, pu_nm, pu_gd, pu_bnd2, pu_bxl, pu_bxr, pu_inb, pu_at, pu_put, pu_us, pu_un, pu_Rs, pu_Rn, pu_upS, pu_M1, pu_M2, pu_MM, pu_RR, pu_H1, pu_H2, nI_add, pk_mul, pk_sub, nI_clamp, nI_eq, nI_leI, nI_ltI, pu_in, pu_of, pu_lay, pu_ll, pu_il, pu_nI_mI, pu_mI_nI, pu_mm, pu_nn, pu_nI_le_mI, pu_nI_lt_mI, pu_mI_lt, pu_mI_le, pu_inW, pu_inO, if_pos, if_neg, ↓reduceIte]
        · left
          refine ⟨r, by omega, by omega, ?_, ?_⟩
          · rw [hb, w]
            simp (disch := omega) only [f_X0_tryLine, q2, t1, f_X0_tryLine_b21, ↓pu_m1, pu_i0, pu_i1, pu_i2, pu_i3, pu_i4, pu_i5, pu_i6, pu_i7, pu_i8, pu_i9, pu_i10, pu_i11, pu_i12, pu_i13, pu_i14, pu_i15, pu_i16, pu_i17, pu_i18, pu_i19, pu_i20, pu_i21, pu_i22, pu_i30, pu_i33, pu_i34, pu_i36, pu_i40, pu_i42, pu_i48, pu_i49, pu_i50, pu_i57, pu_i59, pu_i60, pu_i62, pu_i86, pu_i94, pu_i99, pu_i103, pu_i106, pu_i108, pu_i109, pu_i111, pu_i113, pu_i119, pu_i126, pu_i999, pu_bnd, pu_nm, pu_gd, pu_bnd2, pu_bxl, pu_bxr, pu_inb, pu_at, pu_put, pu_us, pu_un, pu_Rs, pu_Rn, pu_upS, pu_M1, pu_M2, pu_MM, pu_RR, pu_H1, pu_H2, nI_add, pk_mul, pk_sub, nI_clamp, nI_eq, nI_leI, nI_ltI, pu_in, pu_of, pu_lay, pu_ll, pu_il, pu_nI_mI, pu_mI_nI, pu_mm, pu_nn, pu_nI_le_mI, pu_nI_lt_mI, pu_mI_lt, pu_mI_le, pu_inW, pu_inO, if_pos, if_neg, ↓reduceIte]
          · unfold f_X6_stops f_X6_stops_b49 f_X6_stops_b54
            simp (disch := omega) only [p5, g6, q3, t2, ↓pu_m1, pu_i0, pu_i1, pu_i2, pu_i3, pu_i4, pu_i5, pu_i6, pu_i7, pu_i8, pu_i9, pu_i10, pu_i11, pu_i12, pu_i13, pu_i14, pu_i15, pu_i16, pu_i17, pu_i18, pu_i19, pu_i20, pu_i21, pu_i22, pu_i30, pu_i33, pu_i34, pu_i36, pu_i40, pu_i42, pu_i48, pu_i49, pu_i50, pu_i57, pu_i59, pu_i60, pu_i62, pu_i86, pu_i94, pu_i99, pu_i103, pu_i106, pu_i108, pu_i109, pu_i111, pu_i113, pu_i119, pu_i126, pu_i999, pu_bnd, pu_nm, pu_gd, pu_bnd2, pu_bxl, pu_bxr, pu_inb, pu_at, pu_put, pu_us, pu_un, pu_Rs, pu_Rn, pu_upS, pu_M1, pu_M2, pu_MM, pu_RR, pu_H1, pu_H2, nI_add, pk_mul, pk_sub, nI_clamp, nI_eq, nI_leI, nI_ltI, pu_in, pu_of, pu_lay, pu_ll, pu_il, pu_nI_mI, pu_mI_nI, pu_mm, pu_nn, pu_nI_le_mI, pu_nI_lt_mI, pu_mI_lt, pu_mI_le, pu_inW, pu_inO, if_pos, if_neg, ↓reduceIte]
      · left
        refine ⟨10, by omega, by omega, ?_, ?_⟩
        · rw [hb, w]
          simp (disch := omega) only [f_X0_tryLine, q2, f_X0_tryLine_b21, ↓pu_m1, pu_i0, pu_i1, pu_i2, pu_i3, pu_i4, pu_i5, pu_i6, pu_i7, pu_i8, pu_i9, pu_i10, pu_i11, pu_i12, pu_i13, pu_i14, pu_i15, pu_i16, pu_i17, pu_i18, pu_i19, pu_i20, pu_i21, pu_i22, pu_i30, pu_i33, pu_i34, pu_i36, pu_i40, pu_i42, pu_i48, pu_i49, pu_i50, pu_i57, pu_i59, pu_i60, pu_i62, pu_i86, pu_i94, pu_i99, pu_i103, pu_i106, pu_i108, pu_i109, pu_i111, pu_i113, pu_i119, pu_i126, pu_i999, pu_bnd, pu_nm, pu_gd, pu_bnd2, pu_bxl, pu_bxr, pu_inb, pu_at, pu_put, pu_us, pu_un, pu_Rs, pu_Rn, pu_upS, pu_M1, pu_M2, pu_MM, pu_RR, pu_H1, pu_H2, nI_add, pk_mul, pk_sub, nI_clamp, nI_eq, nI_leI, nI_ltI, pu_in, pu_of, pu_lay, pu_ll, pu_il, pu_nI_mI, pu_mI_nI, pu_mm, pu_nn, pu_nI_le_mI, pu_nI_lt_mI, pu_mI_lt, pu_mI_le, pu_inW, pu_inO, if_pos, if_neg, ↓reduceIte]
        · unfold f_X6_stops f_X6_stops_b53 f_X6_stops_b54
          simp (disch := omega) only [p5, g6, q3, ↓pu_m1, pu_i0, pu_i1, pu_i2, pu_i3, pu_i4, pu_i5, pu_i6, pu_i7, pu_i8, pu_i9, pu_i10, pu_i11, pu_i12, pu_i13, pu_i14, pu_i15, pu_i16, pu_i17, pu_i18, pu_i19, pu_i20, pu_i21, pu_i22, pu_i30, pu_i33, pu_i34, pu_i36, pu_i40, pu_i42, pu_i48, pu_i49, pu_i50, pu_i57, pu_i59, pu_i60, pu_i62, pu_i86, pu_i94, pu_i99, pu_i103, pu_i106, pu_i108, pu_i109, pu_i111, pu_i113, pu_i119, pu_i126, pu_i999, pu_bnd, pu_nm, pu_gd, pu_bnd2, pu_bxl, pu_bxr, pu_inb, pu_at, pu_put, pu_us, pu_un, pu_Rs, pu_Rn, pu_upS, pu_M1, pu_M2, pu_MM, pu_RR, pu_H1, pu_H2, nI_add, pk_mul, pk_sub, nI_clamp, nI_eq, nI_leI, nI_ltI, pu_in, pu_of, pu_lay, pu_ll, pu_il, pu_nI_mI, pu_mI_nI, pu_mm, pu_nn, pu_nI_le_mI, pu_nI_lt_mI, pu_mI_lt, pu_mI_le, pu_inW, pu_inO, if_pos, if_neg, ↓reduceIte]
    · rw [w] at p5
      rcases t_has h hg with ⟨q1, q2, q3⟩ | ⟨q1, q2, q3⟩
      · rcases t_has h ho with ⟨k1, k2, k3⟩ | ⟨k1, k2, k3⟩
        · obtain ⟨r, hr, t1, t2, t3⟩ := t_noLoan h q1 k1
          by_cases z : r = 0
          · subst z
            obtain ⟨s1, s2, s3, s4⟩ := t3 rfl
            obtain ⟨K2, M2, r, u1, u2, u3, u4, u5⟩ := o_lend h q1 k1 s1 s2 s3 s4
            right
            refine ⟨K2, M2, l, ?_, ?_, ?_, u4.mono (by omega), u5⟩
            · rw [hb, w]
              simp (disch := omega) only [f_X0_tryLoan, q2, k2, t1, u1, ↓pu_m1, pu_i0, pu_i1, pu_i2, pu_i3, pu_i4, pu_i5, pu_i6, pu_i7, pu_i8, pu_i9, pu_i10, pu_i11, pu_i12, pu_i13, pu_i14, pu_i15, pu_i16, pu_i17, pu_i18, pu_i19, pu_i20, pu_i21, pu_i22, pu_i30, pu_i33, pu_i34, pu_i36, pu_i40, pu_i42, pu_i48, pu_i49, pu_i50, pu_i57, pu_i59, pu_i60, pu_i62, pu_i86, pu_i94, pu_i99, pu_i103, pu_i106, pu_i108, pu_i109, pu_i111, pu_i113, pu_i119, pu_i126, pu_i999, pu_bnd, pu_nm, pu_gd, pu_bnd2, pu_bxl, pu_bxr, pu_inb, pu_at, pu_put, pu_us, pu_un, pu_Rs, pu_Rn, pu_upS, pu_M1, pu_M2, pu_MM, pu_RR, pu_H1, pu_H2, nI_add, pk_mul, pk_sub, nI_clamp, nI_eq, nI_leI, nI_ltI, pu_in, pu_of, pu_lay, pu_ll, pu_il, pu_nI_mI, pu_mI_nI, pu_mm, pu_nn, pu_nI_le_mI, pu_nI_lt_mI, pu_mI_lt, pu_mI_le, pu_inW, pu_inO, if_pos, if_neg, ↓reduceIte]
            · unfold f_X6_stops f_X6_stops_b49 f_X6_stops_b54
              simp (disch := omega) only [p5, g6, g7, q3, k3, t2, ↓pu_m1, pu_i0, pu_i1, pu_i2, pu_i3, pu_i4, pu_i5, pu_i6, pu_i7, pu_i8, pu_i9, pu_i10, pu_i11, pu_i12, pu_i13, pu_i14, pu_i15, pu_i16, pu_i17, pu_i18, pu_i19, pu_i20, pu_i21, pu_i22, pu_i30, pu_i33, pu_i34, pu_i36, pu_i40, pu_i42, pu_i48, pu_i49, pu_i50, pu_i57, pu_i59, pu_i60, pu_i62, pu_i86, pu_i94, pu_i99, pu_i103, pu_i106, pu_i108, pu_i109, pu_i111, pu_i113, pu_i119, pu_i126, pu_i999, pu_bnd, pu_nm, pu_gd, pu_bnd2, pu_bxl, pu_bxr, pu_inb, pu_at, pu_put, pu_us, pu_un, pu_Rs, pu_Rn, pu_upS, pu_M1, pu_M2, pu_MM, pu_RR, pu_H1, pu_H2, nI_add, pk_mul, pk_sub, nI_clamp, nI_eq, nI_leI, nI_ltI, pu_in, pu_of, pu_lay, pu_ll, pu_il, pu_nI_mI, pu_mI_nI, pu_mm, pu_nn, pu_nI_le_mI, pu_nI_lt_mI, pu_mI_lt, pu_mI_le, pu_inW, pu_inO, if_pos, if_neg, ↓reduceIte]
            · unfold f_X6_happens
              simp (disch := omega) only [p5, g6, g7, u3, ↓pu_m1, pu_i0, pu_i1, pu_i2, pu_i3, pu_i4, pu_i5, pu_i6, pu_i7, pu_i8, pu_i9, pu_i10, pu_i11, pu_i12, pu_i13, pu_i14, pu_i15, pu_i16, pu_i17, pu_i18, pu_i19, pu_i20, pu_i21, pu_i22, pu_i30, pu_i33, pu_i34, pu_i36, pu_i40, pu_i42, pu_i48, pu_i49, pu_i50, pu_i57, pu_i59, pu_i60, pu_i62, pu_i86, pu_i94, pu_i99, pu_i103, pu_i106, pu_i108, pu_i109, pu_i111, pu_i113, pu_i119, pu_i126, pu_i999, pu_bnd, pu_nm, pu_gd, pu_bnd2, pu_bxl, pu_bxr, pu_inb, pu_at, pu_put, pu_us, pu_un, pu_Rs, pu_Rn, pu_upS, pu_M1, pu_M2, pu_MM, pu_RR, pu_H1, pu_H2, nI_add, pk_mul, pk_sub, nI_clamp, nI_eq, nI_leI, nI_ltI, pu_in, pu_of, pu_lay, pu_ll, pu_il, pu_nI_mI, pu_mI_nI, pu_mm, pu_nn, pu_nI_le_mI, pu_nI_lt_mI, pu_mI_lt, pu_mI_le, pu_inW, pu_inO, if_pos, if_neg, ↓reduceIte]
          · left
            refine ⟨r, by omega, by omega, ?_, ?_⟩
            · rw [hb, w]
              simp (disch := omega) only [f_X0_tryLoan, q2, k2, t1, ↓pu_m1, pu_i0, pu_i1, pu_i2, pu_i3, pu_i4, pu_i5, pu_i6, pu_i7, pu_i8, pu_i9, pu_i10, pu_i11, pu_i12, pu_i13, pu_i14, pu_i15, pu_i16, pu_i17, pu_i18, pu_i19, pu_i20, pu_i21, pu_i22, pu_i30, pu_i33, pu_i34, pu_i36, pu_i40, pu_i42, pu_i48, pu_i49, pu_i50, pu_i57, pu_i59, pu_i60, pu_i62, pu_i86, pu_i94, pu_i99, pu_i103, pu_i106, pu_i108, pu_i109, pu_i111, pu_i113, pu_i119, pu_i126, pu_i999, pu_bnd, pu_nm, pu_gd, pu_bnd2, pu_bxl, pu_bxr, pu_inb, pu_at, pu_put, pu_us, pu_un, pu_Rs, pu_Rn, pu_upS, pu_M1, pu_M2, pu_MM, pu_RR, pu_H1, pu_H2, nI_add, pk_mul, pk_sub, nI_clamp, nI_eq, nI_leI, nI_ltI, pu_in, pu_of, pu_lay, pu_ll, pu_il, pu_nI_mI, pu_mI_nI, pu_mm, pu_nn, pu_nI_le_mI, pu_nI_lt_mI, pu_mI_lt, pu_mI_le, pu_inW, pu_inO, if_pos, if_neg, ↓reduceIte]
            · unfold f_X6_stops f_X6_stops_b49 f_X6_stops_b54
              simp (disch := omega) only [p5, g6, g7, q3, k3, t2, ↓pu_m1, pu_i0, pu_i1, pu_i2, pu_i3, pu_i4, pu_i5, pu_i6, pu_i7, pu_i8, pu_i9, pu_i10, pu_i11, pu_i12, pu_i13, pu_i14, pu_i15, pu_i16, pu_i17, pu_i18, pu_i19, pu_i20, pu_i21, pu_i22, pu_i30, pu_i33, pu_i34, pu_i36, pu_i40, pu_i42, pu_i48, pu_i49, pu_i50, pu_i57, pu_i59, pu_i60, pu_i62, pu_i86, pu_i94, pu_i99, pu_i103, pu_i106, pu_i108, pu_i109, pu_i111, pu_i113, pu_i119, pu_i126, pu_i999, pu_bnd, pu_nm, pu_gd, pu_bnd2, pu_bxl, pu_bxr, pu_inb, pu_at, pu_put, pu_us, pu_un, pu_Rs, pu_Rn, pu_upS, pu_M1, pu_M2, pu_MM, pu_RR, pu_H1, pu_H2, nI_add, pk_mul, pk_sub, nI_clamp, nI_eq, nI_leI, nI_ltI, pu_in, pu_of, pu_lay, pu_ll, pu_il, pu_nI_mI, pu_mI_nI, pu_mm, pu_nn, pu_nI_le_mI, pu_nI_lt_mI, pu_mI_lt, pu_mI_le, pu_inW, pu_inO, if_pos, if_neg, ↓reduceIte]
        · left
          refine ⟨10, by omega, by omega, ?_, ?_⟩
          · rw [hb, w]
            simp (disch := omega) only [f_X0_tryLoan, q2, k2, ↓pu_m1, pu_i0, pu_i1, pu_i2, pu_i3, pu_i4, pu_i5, pu_i6, pu_i7, pu_i8, pu_i9, pu_i10, pu_i11, pu_i12, pu_i13, pu_i14, pu_i15, pu_i16, pu_i17, pu_i18, pu_i19, pu_i20, pu_i21, pu_i22, pu_i30, pu_i33, pu_i34, pu_i36, pu_i40, pu_i42, pu_i48, pu_i49, pu_i50, pu_i57, pu_i59, pu_i60, pu_i62, pu_i86, pu_i94, pu_i99, pu_i103, pu_i106, pu_i108, pu_i109, pu_i111, pu_i113, pu_i119, pu_i126, pu_i999, pu_bnd, pu_nm, pu_gd, pu_bnd2, pu_bxl, pu_bxr, pu_inb, pu_at, pu_put, pu_us, pu_un, pu_Rs, pu_Rn, pu_upS, pu_M1, pu_M2, pu_MM, pu_RR, pu_H1, pu_H2, nI_add, pk_mul, pk_sub, nI_clamp, nI_eq, nI_leI, nI_ltI, pu_in, pu_of, pu_lay, pu_ll, pu_il, pu_nI_mI, pu_mI_nI, pu_mm, pu_nn, pu_nI_le_mI, pu_nI_lt_mI, pu_mI_lt, pu_mI_le, pu_inW, pu_inO, if_pos, if_neg, ↓reduceIte]
          · unfold f_X6_stops f_X6_stops_b53 f_X6_stops_b54
            simp (disch := omega) only [p5, g6, g7, q3, k3, ↓pu_m1, pu_i0, pu_i1, pu_i2, pu_i3, pu_i4, pu_i5, pu_i6, pu_i7, pu_i8, pu_i9, pu_i10, pu_i11, pu_i12, pu_i13, pu_i14, pu_i15, pu_i16, pu_i17, pu_i18, pu_i19, pu_i20, pu_i21, pu_i22, pu_i30, pu_i33, pu_i34, pu_i36, pu_i40, pu_i42, pu_i48, pu_i49, pu_i50, pu_i57, pu_i59, pu_i60, pu_i62, pu_i86, pu_i94, pu_i99, pu_i103, pu_i106, pu_i108, pu_i109, pu_i111, pu_i113, pu_i119, pu_i126, pu_i999, pu_bnd, pu_nm, pu_gd, pu_bnd2, pu_bxl, pu_bxr, pu_inb, pu_at, pu_put, pu_us, pu_un, pu_Rs, pu_Rn, pu_upS, pu_M1, pu_M2, pu_MM, pu_RR, pu_H1, pu_H2, nI_add, pk_mul, pk_sub, nI_clamp, nI_eq, nI_leI, nI_ltI, pu_in, pu_of, pu_lay, pu_ll, pu_il, pu_nI_mI, pu_mI_nI, pu_mm, pu_nn, pu_nI_le_mI, pu_nI_lt_mI, pu_mI_lt, pu_mI_le, pu_inW, pu_inO, if_pos, if_neg, ↓reduceIte]
      · left
        refine ⟨10, by omega, by omega, ?_, ?_⟩
        · rw [hb, w]
          simp (disch := omega) only [f_X0_tryLoan, q2, ↓pu_m1, pu_i0, pu_i1, pu_i2, pu_i3, pu_i4, pu_i5, pu_i6, pu_i7, pu_i8, pu_i9, pu_i10, pu_i11, pu_i12, pu_i13, pu_i14, pu_i15, pu_i16, pu_i17, pu_i18, pu_i19, pu_i20, pu_i21, pu_i22, pu_i30, pu_i33, pu_i34, pu_i36, pu_i40, pu_i42, pu_i48, pu_i49, pu_i50, pu_i57, pu_i59, pu_i60, pu_i62, pu_i86, pu_i94, pu_i99, pu_i103, pu_i106, pu_i108, pu_i109, pu_i111, pu_i113, pu_i119, pu_i126, pu_i999, pu_bnd, pu_nm, pu_gd, pu_bnd2, pu_bxl, pu_bxr, pu_inb, pu_at, pu_put, pu_us, pu_un, pu_Rs, pu_Rn, pu_upS, pu_M1, pu_M2, pu_MM, pu_RR, pu_H1, pu_H2, nI_add, pk_mul, pk_sub, nI_clamp, nI_eq, nI_leI, nI_ltI, pu_in, pu_of, pu_lay, pu_ll, pu_il, pu_nI_mI, pu_mI_nI, pu_mm, pu_nn, pu_nI_le_mI, pu_nI_lt_mI, pu_mI_lt, pu_mI_le, pu_inW, pu_inO, if_pos, if_neg, ↓reduceIte]
        · unfold f_X6_stops f_X6_stops_b53 f_X6_stops_b54
          simp (disch := omega) only [p5, g6, q3, ↓pu_m1, pu_i0, pu_i1, pu_i2, pu_i3, pu_i4, pu_i5, pu_i6, pu_i7, pu_i8, pu_i9, pu_i10, pu_i11, pu_i12, pu_i13, pu_i14, pu_i15, pu_i16, pu_i17, pu_i18, pu_i19, pu_i20, pu_i21, pu_i22, pu_i30, pu_i33, pu_i34, pu_i36, pu_i40, pu_i42, pu_i48, pu_i49, pu_i50, pu_i57, pu_i59, pu_i60, pu_i62, pu_i86, pu_i94, pu_i99, pu_i103, pu_i106, pu_i108, pu_i109, pu_i111, pu_i113, pu_i119, pu_i126, pu_i999, pu_bnd, pu_nm, pu_gd, pu_bnd2, pu_bxl, pu_bxr, pu_inb, pu_at, pu_put, pu_us, pu_un, pu_Rs, pu_Rn, pu_upS, pu_M1, pu_M2, pu_MM, pu_RR, pu_H1, pu_H2, nI_add, pk_mul, pk_sub, nI_clamp, nI_eq, nI_leI, nI_ltI, pu_in, pu_of, pu_lay, pu_ll, pu_il, pu_nI_mI, pu_mI_nI, pu_mm, pu_nn, pu_nI_le_mI, pu_nI_lt_mI, pu_mI_lt, pu_mI_le, pu_inW, pu_inO, if_pos, if_neg, ↓reduceIte]
