/-! the pure part: the digest -/
def SM (M0 M : MS) : Prop := ∀ r, r ≠ 2 → M.1 r = M0.1 r
theorem SM.rel {B n : Nat} {l : Nat → Nat} {K : RK} {M0 M : MS} (hs : SM M0 M) (h : Rel B n l K (M0.1 0)) : Rel B n l K (M.1 0) := by
  rw [hs 0 (by omega)]
  exact h
theorem SM.mx {M0 M : MS} (hs : SM M0 M) (v : Int64) : SM M0 (upH M v) := hs
theorem SM.f2 {M0 M : MS} (hs : SM M0 M) (f : Nat → Int32) : SM M0 (upM M 2 f) := by
  intro r hr
  rw [pu_M1, pu_Rn hr]
  exact hs r hr
theorem mx5 (x v : Int64) : f_X5_mix x v = some (31 * x + v) := rfl
theorem mx6 (M : MS) (v : Int64) : f_X6_mix M v = some (upH M (31 * M.2 + v)) := rfl
theorem d_num {B n s : Nat} {l : Nat → Nat} {O : XO} {K : RK} {M : MS} (h : Rel B n l K (M.1 0)) (ho : O 8 0 2 = nI s) (hm : M.1 3 1 = nI s) {k : Nat} (hk : k < 22) : ∃ r : Int32, f_X5_numberOf O K (nI k) = some r ∧ f_X6_counted M (nI k) = some r := by
  unfold f_X5_numberOf
  by_cases q : k = 21
  · subst q
    refine ⟨nI s, ?_, ?_⟩
    · simp (disch := omega) only [ho, ↓pu_m1, pu_i0, pu_i1, pu_i2, pu_i3, pu_i4, pu_i5, pu_i6, pu_i7, pu_i8, pu_i9, pu_i10, pu_i11, pu_i12, pu_i13, pu_i14, pu_i15, pu_i16, pu_i17, pu_i18, pu_i19, pu_i20, pu_i21, pu_i22, pu_i30, pu_i33, pu_i34, pu_i36, pu_i40, pu_i42, pu_i48, pu_i49, pu_i50, pu_i57, pu_i59, pu_i60, pu_i62, pu_i86, pu_i94, pu_i99, pu_i103, pu_i106, pu_i108, pu_i109, pu_i111, pu_i113, pu_i119, pu_i126, pu_i999, pu_bnd, pu_nm, pu_gd, pu_bnd2, pu_bxl, pu_bxr, pu_inb, pu_at, pu_put, pu_us, pu_un, pu_Rs, pu_Rn, pu_upS, pu_M1, pu_M2, pu_MM, pu_RR, pu_H1, pu_H2, nI_add, pk_mul, pk_sub, nI_clamp, nI_eq, nI_leI, nI_ltI, pu_in, pu_of, pu_lay, pu_ll, pu_il, pu_nI_mI, pu_mI_nI, pu_mm, pu_nn, pu_nI_le_mI, pu_nI_lt_mI, pu_mI_lt, pu_mI_le, pu_inW, pu_inO, if_pos, if_neg, ↓reduceIte]
    · unfold f_X6_counted
      simp (disch := omega) only [hm, ↓pu_m1, pu_i0, pu_i1, pu_i2, pu_i3, pu_i4, pu_i5, pu_i6, pu_i7, pu_i8, pu_i9, pu_i10, pu_i11, pu_i12, pu_i13, pu_i14, pu_i15, pu_i16, pu_i17, pu_i18, pu_i19, pu_i20, pu_i21, pu_i22, pu_i30, pu_i33, pu_i34, pu_i36, pu_i40, pu_i42, pu_i48, pu_i49, pu_i50, pu_i57, pu_i59, pu_i60, pu_i62, pu_i86, pu_i94, pu_i99, pu_i103, pu_i106, pu_i108, pu_i109, pu_i111, pu_i113, pu_i119, pu_i126, pu_i999, pu_bnd, pu_nm, pu_gd, pu_bnd2, pu_bxl, pu_bxr, pu_inb, pu_at, pu_put, pu_us, pu_un, pu_Rs, pu_Rn, pu_upS, pu_M1, pu_M2, pu_MM, pu_RR, pu_H1, pu_H2, nI_add, pk_mul, pk_sub, nI_clamp, nI_eq, nI_leI, nI_ltI, pu_in, pu_of, pu_lay, pu_ll, pu_il, pu_nI_mI, pu_mI_nI, pu_mm, pu_nn, pu_nI_le_mI, pu_nI_lt_mI, pu_mI_lt, pu_mI_le, pu_inW, pu_inO, if_pos, if_neg, ↓reduceIte]
  · obtain ⟨r, t1, t2⟩ := t_count h (show k < 21 by omega)
    exact ⟨r, by simp (disch := omega) only [t1, ↓pu_m1, pu_i0, pu_i1, pu_i2, pu_i3, pu_i4, pu_i5, pu_i6, pu_i7, pu_i8, pu_i9, pu_i10, pu_i11, pu_i12, pu_i13, pu_i14, pu_i15, pu_i16, pu_i17, pu_i18, pu_i19, pu_i20, pu_i21, pu_i22, pu_i30, pu_i33, pu_i34, pu_i36, pu_i40, pu_i42, pu_i48, pu_i49, pu_i50, pu_i57, pu_i59, pu_i60, pu_i62, pu_i86, pu_i94, pu_i99, pu_i103, pu_i106, pu_i108, pu_i109, pu_i111, pu_i113, pu_i119, pu_i126, pu_i999, pu_bnd, pu_nm, pu_gd, pu_bnd2, pu_bxl, pu_bxr, pu_inb, pu_at, pu_put, pu_us, pu_un, pu_Rs, pu_Rn, pu_upS, pu_M1, pu_M2, pu_MM, pu_RR, pu_H1, pu_H2, nI_add, pk_mul, pk_sub, nI_clamp, nI_eq, nI_leI, nI_ltI, pu_in, pu_of, pu_lay, pu_ll, pu_il, pu_nI_mI, pu_mI_nI, pu_mm, pu_nn, pu_nI_le_mI, pu_nI_lt_mI, pu_mI_lt, pu_mI_le, pu_inW, pu_inO, if_pos, if_neg, ↓reduceIte], t2⟩
theorem d_l6 {B n s : Nat} {l : Nat → Nat} {O : XO} {K : RK} {M0 : MS} (h : Rel B n l K (M0.1 0)) (ho : O 8 0 2 = nI s) (hm : M0.1 3 1 = nI s) : ∀ (k i F F2 : Nat) (x : Int64) (M : MS), i + k = 22 → k < F → k < F2 → SM M0 M → M.2 = x → ∃ (y : Int64) (M2 : MS), f_X5_digest_l6 O K F x (nI i) = f_X5_digest_l31 O K fuelN y (nI 0) ∧ f_X6_digest_l14 F2 M (nI i) = f_X6_digest_l38 fuelN M2 (nI 0) ∧ SM M0 M2 ∧ M2.2 = y := by
  intro k
  induction k with
  | zero =>
    intro i F F2 x M hi hF hF2 hs hx
    obtain ⟨F, rfl⟩ : ∃ q, F = q + 1 := ⟨F - 1, by omega⟩
    obtain ⟨F2, rfl⟩ : ∃ q, F2 = q + 1 := ⟨F2 - 1, by omega⟩
    refine ⟨x, M, ?_, ?_, hs, hx⟩
    · rw [show f_X5_digest_l6 O K (F + 1) x (nI i) = _ from by unfold f_X5_digest_l6; rfl]
      rw [if_pos (show (22 : Int32) ≤ nI i from nI_le (a := 22) (b := i) (by omega) (by omega))]
      rfl
    · rw [show f_X6_digest_l14 (F2 + 1) M (nI i) = _ from by unfold f_X6_digest_l14; rfl]
      rw [if_pos (show (22 : Int32) ≤ nI i from nI_le (a := 22) (b := i) (by omega) (by omega))]
      rfl
  | succ k ih =>
    intro i F F2 x M hi hF hF2 hs hx
    obtain ⟨F, rfl⟩ : ∃ q, F = q + 1 := ⟨F - 1, by omega⟩
    obtain ⟨F2, rfl⟩ : ∃ q, F2 = q + 1 := ⟨F2 - 1, by omega⟩
    obtain ⟨r, t1, t2⟩ := d_num (O := O) (hs.rel h) ho (by rw [hs 3 (by omega)]; exact hm) (show i < 22 by omega)
    obtain ⟨y, M2, i1, i2, i3, i4⟩ := ih (i + 1) F F2 (31 * x + r.toInt64) (upH M (31 * M.2 + r.toInt64)) (by omega) (by omega) (by omega) (hs.mx _) (by rw [pu_H2, hx])
    refine ⟨y, M2, ?_, ?_, i3, i4⟩
    · rw [show f_X5_digest_l6 O K (F + 1) x (nI i) = _ from by unfold f_X5_digest_l6; rfl]
      rw [if_neg (show ¬ (22 : Int32) ≤ nI i from nI_ge (a := i) (b := 22) (by omega) (by omega)), t1, pu_bnd, mx5, pu_bnd, pu_nm, pu_i1, nI_add]
      exact i1
    · rw [show f_X6_digest_l14 (F2 + 1) M (nI i) = _ from by unfold f_X6_digest_l14; rfl]
      rw [if_neg (show ¬ (22 : Int32) ≤ nI i from nI_ge (a := i) (b := 22) (by omega) (by omega)), t2, pu_bnd, mx6, pu_bnd, pu_nm, pu_i1, nI_add]
      exact i2
theorem d_in {B n : Nat} {l : Nat → Nat} {K : RK} {M0 : MS} (h : Rel B n l K (M0.1 0)) (hB : 360 * B < 2 ^ 30) {g c : Nat} (hg : g < n) (hc : c < 3) (kc : Int32 → Int64 → Int32 → Option Int64) (kr : MS → Int32 → Int32 → Option MS) : ∀ (k i F F2 : Nat) (x : Int64) (M : MS), i + k = 4 → k < F → k < F2 → SM M0 M → M.2 = x → ∃ (y : Int64) (M2 : MS), f_X5_mixGuest_l97 kc K F (nI g) x (nI c) (nI i) = kc (nI g) y (nI (c + 1)) ∧ f_X6_mixGuest_l64 kr F2 M (nI g) (nI c) (nI i) = kr M2 (nI g) (nI (c + 1)) ∧ SM M0 M2 ∧ M2.2 = y := by
  intro k
  induction k with
  | zero =>
    intro i F F2 x M hi hF hF2 hs hx
    obtain ⟨F, rfl⟩ : ∃ q, F = q + 1 := ⟨F - 1, by omega⟩
    obtain ⟨F2, rfl⟩ : ∃ q, F2 = q + 1 := ⟨F2 - 1, by omega⟩
    obtain ⟨r, t1, t2⟩ := t_free (hs.rel h) hB hg hc
    refine ⟨31 * x + r.toInt64, upH M (31 * M.2 + r.toInt64), ?_, ?_, hs.mx _, by rw [pu_H2, hx]⟩
    · rw [show f_X5_mixGuest_l97 kc K (F + 1) (nI g) x (nI c) (nI i) = _ from by unfold f_X5_mixGuest_l97; rfl]
      rw [if_pos (show (4 : Int32) ≤ nI i from nI_le (a := 4) (b := i) (by omega) (by omega)), t1, pu_bnd, mx5, pu_bnd, pu_nm, pu_i1, nI_add]
    · rw [show f_X6_mixGuest_l64 kr (F2 + 1) M (nI g) (nI c) (nI i) = _ from by unfold f_X6_mixGuest_l64; rfl]
      rw [if_pos (show (4 : Int32) ≤ nI i from nI_le (a := 4) (b := i) (by omega) (by omega)), t2, pu_bnd, mx6, pu_bnd, pu_nm, pu_i1, nI_add]
  | succ k ih =>
    intro i F F2 x M hi hF hF2 hs hx
    obtain ⟨F, rfl⟩ : ∃ q, F = q + 1 := ⟨F - 1, by omega⟩
    obtain ⟨F2, rfl⟩ : ∃ q, F2 = q + 1 := ⟨F2 - 1, by omega⟩
    obtain ⟨r, f, t1, t2, -⟩ := t_bring (hs.rel h) hB hg hc (show i < 4 by omega)
    obtain ⟨y, M2, i1, i2, i3, i4⟩ := ih (i + 1) F F2 (31 * x + r.toInt64) (upH (upM M 2 f) (31 * (upM M 2 f).2 + r.toInt64)) (by omega) (by omega) (by omega) ((hs.f2 f).mx _) (by rw [pu_H2, pu_M2, hx])
    refine ⟨y, M2, ?_, ?_, i3, i4⟩
    · rw [show f_X5_mixGuest_l97 kc K (F + 1) (nI g) x (nI c) (nI i) = _ from by unfold f_X5_mixGuest_l97; rfl]
      rw [if_neg (show ¬ (4 : Int32) ≤ nI i from nI_ge (a := i) (b := 4) (by omega) (by omega)), t1, pu_bnd, mx5, pu_bnd, pu_nm, pu_i1, nI_add]
      exact i1
    · rw [show f_X6_mixGuest_l64 kr (F2 + 1) M (nI g) (nI c) (nI i) = _ from by unfold f_X6_mixGuest_l64; rfl]
      rw [if_neg (show ¬ (4 : Int32) ≤ nI i from nI_ge (a := i) (b := 4) (by omega) (by omega)), t2, pu_bnd2, mx6, pu_bnd, pu_nm, pu_i1, nI_add]
      exact i2
theorem d_88 {B n : Nat} {l : Nat → Nat} {K : RK} {M0 : MS} (h : Rel B n l K (M0.1 0)) (hB : 360 * B < 2 ^ 30) {g : Nat} (hg : g < n) : ∀ (k i F F2 : Nat) (x : Int64) (M : MS), i + k = 3 → k < F → k < F2 → SM M0 M → M.2 = x → ∃ (y : Int64) (M2 : MS), f_X5_mixGuest_l88 K F (nI g) x (nI i) = some y ∧ f_X6_mixGuest_l57 F2 M (nI g) (nI i) = some M2 ∧ SM M0 M2 ∧ M2.2 = y := by
  intro k
  induction k with
  | zero =>
    intro i F F2 x M hi hF hF2 hs hx
    obtain ⟨F, rfl⟩ : ∃ q, F = q + 1 := ⟨F - 1, by omega⟩
    obtain ⟨F2, rfl⟩ : ∃ q, F2 = q + 1 := ⟨F2 - 1, by omega⟩
    refine ⟨x, M, ?_, ?_, hs, hx⟩
    · rw [show f_X5_mixGuest_l88 K (F + 1) (nI g) x (nI i) = _ from by unfold f_X5_mixGuest_l88; rfl]
      rw [if_pos (show (3 : Int32) ≤ nI i from nI_le (a := 3) (b := i) (by omega) (by omega))]
    · rw [show f_X6_mixGuest_l57 (F2 + 1) M (nI g) (nI i) = _ from by unfold f_X6_mixGuest_l57; rfl]
      rw [if_pos (show (3 : Int32) ≤ nI i from nI_le (a := 3) (b := i) (by omega) (by omega))]
  | succ k ih =>
    intro i F F2 x M hi hF hF2 hs hx
    obtain ⟨F, rfl⟩ : ∃ q, F = q + 1 := ⟨F - 1, by omega⟩
    obtain ⟨F2, rfl⟩ : ∃ q, F2 = q + 1 := ⟨F2 - 1, by omega⟩
    obtain ⟨y, M2, i1, i2, i3, i4⟩ := d_in h hB hg (show i < 3 by omega) (f_X5_mixGuest_l88 K F) (f_X6_mixGuest_l57 F2) 4 0 fuelN fuelN x M (by omega) (by unfold fuelN; omega) (by unfold fuelN; omega) hs hx
    obtain ⟨z, M3, j1, j2, j3, j4⟩ := ih (i + 1) F F2 y M2 (by omega) (by omega) (by omega) i3 i4
    refine ⟨z, M3, ?_, ?_, j3, j4⟩
    · rw [show f_X5_mixGuest_l88 K (F + 1) (nI g) x (nI i) = _ from by unfold f_X5_mixGuest_l88; rfl]
      rw [if_neg (show ¬ (3 : Int32) ≤ nI i from nI_ge (a := i) (b := 3) (by omega) (by omega))]
      exact i1.trans j1
    · rw [show f_X6_mixGuest_l57 (F2 + 1) M (nI g) (nI i) = _ from by unfold f_X6_mixGuest_l57; rfl]
      rw [if_neg (show ¬ (3 : Int32) ≤ nI i from nI_ge (a := i) (b := 3) (by omega) (by omega))]
      exact i2.trans j2
theorem d_guest {B n : Nat} {l : Nat → Nat} {K : RK} {M0 : MS} (h : Rel B n l K (M0.1 0)) (hB : 360 * B < 2 ^ 30) {g : Nat} (hg : g < n) : ∀ (k i F F2 : Nat) (x : Int64) (M : MS), i + k = 11 → k < F → k < F2 → SM M0 M → M.2 = x → ∃ (y : Int64) (M2 : MS), f_X5_mixGuest_l6 K F (nI g) x (nI i) = some y ∧ f_X6_mixGuest_l2 F2 M (nI g) (nI i) = some M2 ∧ SM M0 M2 ∧ M2.2 = y := by
  intro k
  induction k with
  | zero =>
    intro i F F2 x M hi hF hF2 hs hx
    obtain ⟨F, rfl⟩ : ∃ q, F = q + 1 := ⟨F - 1, by omega⟩
    obtain ⟨F2, rfl⟩ : ∃ q, F2 = q + 1 := ⟨F2 - 1, by omega⟩
    obtain ⟨r1, -, a1, a2, -⟩ := t_noMask (hs.rel h) hg
    have s1 := hs.mx (31 * M.2 + (nI r1).toInt64)
    obtain ⟨r2, -, b1, b2, -⟩ := t_noLine (s1.rel h) hB hg
    have s2 := s1.mx (31 * (upH M (31 * M.2 + (nI r1).toInt64)).2 + (nI r2).toInt64)
    obtain ⟨r3, f, c1, c2⟩ := t_best (s2.rel h) hB hg
    have s3 := (s2.f2 f).mx (31 * (upM (upH (upH M (31 * M.2 + (nI r1).toInt64)) (31 * (upH M (31 * M.2 + (nI r1).toInt64)).2 + (nI r2).toInt64)) 2 f).2 + r3.toInt64)
    obtain ⟨y, M2, i1, i2, i3, i4⟩ := d_88 h hB hg 3 0 fuelN fuelN (31 * (31 * (31 * x + (nI r1).toInt64) + (nI r2).toInt64) + r3.toInt64) _ (by omega) (by unfold fuelN; omega) (by unfold fuelN; omega) s3 (by rw [pu_H2, pu_M2, pu_H2, pu_H2, hx])
    refine ⟨y, M2, ?_, ?_, i3, i4⟩
    · rw [show f_X5_mixGuest_l6 K (F + 1) (nI g) x (nI i) = _ from by unfold f_X5_mixGuest_l6; rfl]
      rw [if_pos (show (11 : Int32) ≤ nI i from nI_le (a := 11) (b := i) (by omega) (by omega)), a1, pu_bnd, mx5, pu_bnd, b1, pu_bnd, mx5, pu_bnd, c1, pu_bnd, mx5, pu_bnd]
      exact i1
    · rw [show f_X6_mixGuest_l2 (F2 + 1) M (nI g) (nI i) = _ from by unfold f_X6_mixGuest_l2; rfl]
      rw [if_pos (show (11 : Int32) ≤ nI i from nI_le (a := 11) (b := i) (by omega) (by omega)), a2, pu_bnd, mx6, pu_bnd, b2, pu_bnd, mx6, pu_bnd, c2, pu_bnd2, mx6, pu_bnd]
      exact i2
  | succ k ih =>
    intro i F F2 x M hi hF hF2 hs hx
    obtain ⟨F, rfl⟩ : ∃ q, F = q + 1 := ⟨F - 1, by omega⟩
    obtain ⟨F2, rfl⟩ : ∃ q, F2 = q + 1 := ⟨F2 - 1, by omega⟩
    obtain ⟨r, t1, t2⟩ := t_guest (hs.rel h) hg (show i < 11 by omega)
    obtain ⟨y, M2, i1, i2, i3, i4⟩ := ih (i + 1) F F2 (31 * x + r.toInt64) (upH M (31 * M.2 + r.toInt64)) (by omega) (by omega) (by omega) (hs.mx _) (by rw [pu_H2, hx])
    refine ⟨y, M2, ?_, ?_, i3, i4⟩
    · rw [show f_X5_mixGuest_l6 K (F + 1) (nI g) x (nI i) = _ from by unfold f_X5_mixGuest_l6; rfl]
      rw [if_neg (show ¬ (11 : Int32) ≤ nI i from nI_ge (a := i) (b := 11) (by omega) (by omega)), t1, pu_bnd, mx5, pu_bnd, pu_nm, pu_i1, nI_add]
      exact i1
    · rw [show f_X6_mixGuest_l2 (F2 + 1) M (nI g) (nI i) = _ from by unfold f_X6_mixGuest_l2; rfl]
      rw [if_neg (show ¬ (11 : Int32) ≤ nI i from nI_ge (a := i) (b := 11) (by omega) (by omega)), t2, pu_bnd, mx6, pu_bnd, pu_nm, pu_i1, nI_add]
      exact i2
theorem d_31 {B n : Nat} {l : Nat → Nat} {O : XO} {K : RK} {M0 : MS} (h : Rel B n l K (M0.1 0)) (hB : 360 * B < 2 ^ 30) : ∀ (k i F F2 : Nat) (x : Int64) (M : MS), i + k = n → k < F → k < F2 → SM M0 M → M.2 = x → ∃ (y : Int64) (M2 : MS), f_X5_digest_l31 O K F x (nI i) = f_X5_digest_l60 O K fuelN y (nI 0) ∧ f_X6_digest_l38 F2 M (nI i) = f_X6_digest_l61 fuelN M2 (nI 0) ∧ SM M0 M2 ∧ M2.2 = y := by
  have hn := h.n10
  have e12 := h.1.2.1
  intro k
  induction k with
  | zero =>
    intro i F F2 x M hi hF hF2 hs hx
    obtain ⟨F, rfl⟩ : ∃ q, F = q + 1 := ⟨F - 1, by omega⟩
    obtain ⟨F2, rfl⟩ : ∃ q, F2 = q + 1 := ⟨F2 - 1, by omega⟩
    have w1 : M.1 0 1 = nI n := by rw [hs 0 (by omega), h.2.2.2.2.1.2.1, h.1.2.1]
    refine ⟨x, M, ?_, ?_, hs, hx⟩
    · rw [show f_X5_digest_l31 O K (F + 1) x (nI i) = _ from by unfold f_X5_digest_l31; rfl]
      rw [e12, if_pos (nI_le (by omega) (by omega))]
      rfl
    · rw [show f_X6_digest_l38 (F2 + 1) M (nI i) = _ from by unfold f_X6_digest_l38; rfl]
      rw [pu_i1, pu_inb (by omega) (by omega), pu_gd, pu_nm, nI_clamp (by omega), w1, if_pos (nI_le (by omega) (by omega))]
      rfl
  | succ k ih =>
    intro i F F2 x M hi hF hF2 hs hx
    obtain ⟨F, rfl⟩ : ∃ q, F = q + 1 := ⟨F - 1, by omega⟩
    obtain ⟨F2, rfl⟩ : ∃ q, F2 = q + 1 := ⟨F2 - 1, by omega⟩
    have w1 : M.1 0 1 = nI n := by rw [hs 0 (by omega), h.2.2.2.2.1.2.1, h.1.2.1]
    obtain ⟨r, M1, t1, t2, t3, t4⟩ := d_guest h hB (show i < n by omega) 11 0 fuelN fuelN x M (by omega) (by unfold fuelN; omega) (by unfold fuelN; omega) hs hx
    have t1' : f_X5_mixGuest K x (nI i) = some r := t1
    have t2' : f_X6_mixGuest M (nI i) = some M1 := t2
    obtain ⟨y, M2, i1, i2, i3, i4⟩ := ih (i + 1) F F2 r M1 (by omega) (by omega) (by omega) t3 t4
    refine ⟨y, M2, ?_, ?_, i3, i4⟩
    · rw [show f_X5_digest_l31 O K (F + 1) x (nI i) = _ from by unfold f_X5_digest_l31; rfl]
      rw [e12, if_neg (nI_ge (by omega) (by omega)), t1', pu_bnd, pu_nm, pu_i1, nI_add]
      exact i1
    · rw [show f_X6_digest_l38 (F2 + 1) M (nI i) = _ from by unfold f_X6_digest_l38; rfl]
      rw [pu_i1, pu_inb (by omega) (by omega), pu_gd, pu_nm, nI_clamp (by omega), w1, if_neg (nI_ge (by omega) (by omega)), t2', pu_bnd, pu_nm, nI_add]
      exact i2
theorem d_68 {B n : Nat} {l : Nat → Nat} {K : RK} {M0 : MS} (h : Rel B n l K (M0.1 0)) {c : Nat} (hc : c < 3) (kr : MS → Int32 → Option (Int64 × MS)) : ∀ (k i F F2 : Nat) (x : Int64) (M : MS), i + k = l c → k < F → k < F2 → SM M0 M → M.2 = x → ∃ (y : Int64) (M2 : MS), f_X5_mixGate_l68 K F (nI c) (nI (l c)) x (nI i) = some y ∧ f_X6_digest_l108 kr F2 M (nI c) (nI i) = kr M2 (nI (c + 1)) ∧ SM M0 M2 ∧ M2.2 = y := by
  have hl := h.2.2.2.1.2.2.1 c hc
  have aL := h.2.2.2.2.2.2 c hc
  intro k
  induction k with
  | zero =>
    intro i F F2 x M hi hF hF2 hs hx
    obtain ⟨F, rfl⟩ : ∃ q, F = q + 1 := ⟨F - 1, by omega⟩
    obtain ⟨F2, rfl⟩ : ∃ q, F2 = q + 1 := ⟨F2 - 1, by omega⟩
    have w1 : M.1 0 (86 + 11 * c) = nI (l c) := by rw [hs 0 (by omega), aL.1]
    refine ⟨x, M, ?_, ?_, hs, hx⟩
    · rw [show f_X5_mixGate_l68 K (F + 1) (nI c) (nI (l c)) x (nI i) = _ from by unfold f_X5_mixGate_l68; rfl]
      rw [if_pos (nI_le (by omega) (by omega))]
    · rw [show f_X6_digest_l108 kr (F2 + 1) M (nI c) (nI i) = _ from by unfold f_X6_digest_l108; rfl]
      rw [pu_ll hc, pu_bnd, w1, if_pos (nI_le (by omega) (by omega)), pu_nm, pu_i1, nI_add]
  | succ k ih =>
    intro i F F2 x M hi hF hF2 hs hx
    obtain ⟨F, rfl⟩ : ∃ q, F = q + 1 := ⟨F - 1, by omega⟩
    obtain ⟨F2, rfl⟩ : ∃ q, F2 = q + 1 := ⟨F2 - 1, by omega⟩
    have w1 : M.1 0 (86 + 11 * c) = nI (l c) := by rw [hs 0 (by omega), aL.1]
    have w2 : M.1 0 (86 + 11 * c + 1 + i) = K 8 (c * 10 + i) := by rw [hs 0 (by omega), aL.2 i (by omega)]
    obtain ⟨y, M2, i1, i2, i3, i4⟩ := ih (i + 1) F F2 (31 * x + (K 8 (c * 10 + i)).toInt64) (upH M (31 * M.2 + (K 8 (c * 10 + i)).toInt64)) (by omega) (by omega) (by omega) (hs.mx _) (by rw [pu_H2, hx])
    refine ⟨y, M2, ?_, ?_, i3, i4⟩
    · rw [show f_X5_mixGate_l68 K (F + 1) (nI c) (nI (l c)) x (nI i) = _ from by unfold f_X5_mixGate_l68; rfl]
      rw [if_neg (nI_ge (by omega) (by omega))]
      unfold f_X3_standingAt
      rw [pu_i10, pk_mul, nI_add, pu_at (by omega) (by omega), pu_nm, pu_bnd, mx5, pu_bnd, pu_nm, pu_i1, nI_add]
      exact i1
    · rw [show f_X6_digest_l108 kr (F2 + 1) M (nI c) (nI i) = _ from by unfold f_X6_digest_l108; rfl]
      rw [pu_ll hc, pu_bnd, w1, if_neg (nI_ge (by omega) (by omega)), pu_il hc (by omega), pu_bnd, w2, mx6, pu_bnd, pu_nm, pu_i1, nI_add]
      exact i2
theorem d_28 {B n : Nat} {l : Nat → Nat} {K : RK} {M0 : MS} (h : Rel B n l K (M0.1 0)) (hB : 360 * B < 2 ^ 30) {c : Nat} (hc : c < 3) (kr : MS → Int32 → Option (Int64 × MS)) : ∀ (k i F F2 : Nat) (x : Int64) (M : MS), i + k = 5 → k < F → k < F2 → SM M0 M → M.2 = x → ∃ (y : Int64) (M2 : MS), f_X5_mixGate_l28 K F (nI c) (nI (l c)) x (nI i) = some y ∧ f_X6_digest_l78 kr F2 M (nI c) (nI i) = kr M2 (nI (c + 1)) ∧ SM M0 M2 ∧ M2.2 = y := by
  have hl := h.2.2.2.1.2.2.1 c hc
  obtain ⟨t, ht, et⟩ := h.1.2.2.1
  intro k
  induction k with
  | zero =>
    intro i F F2 x M hi hF hF2 hs hx
    obtain ⟨F, rfl⟩ : ∃ q, F = q + 1 := ⟨F - 1, by omega⟩
    obtain ⟨F2, rfl⟩ : ∃ q, F2 = q + 1 := ⟨F2 - 1, by omega⟩
    obtain ⟨y, M2, i1, i2, i3, i4⟩ := d_68 h hc kr (l c) 0 fuelN fuelN x M (by omega) (by unfold fuelN; omega) (by unfold fuelN; omega) hs hx
    refine ⟨y, M2, ?_, ?_, i3, i4⟩
    · rw [show f_X5_mixGate_l28 K (F + 1) (nI c) (nI (l c)) x (nI i) = _ from by unfold f_X5_mixGate_l28; rfl]
      rw [if_pos (show (4 : Int32) < nI i from nI_lt (a := 4) (b := i) (by omega) (by omega))]
      exact i1
    · rw [show f_X6_digest_l78 kr (F2 + 1) M (nI c) (nI i) = _ from by unfold f_X6_digest_l78; rfl]
      rw [if_pos (show (5 : Int32) ≤ nI i from nI_le (a := 5) (b := i) (by omega) (by omega))]
      exact i2
  | succ k ih =>
    intro i F F2 x M hi hF hF2 hs hx
    obtain ⟨F, rfl⟩ : ∃ q, F = q + 1 := ⟨F - 1, by omega⟩
    obtain ⟨F2, rfl⟩ : ∃ q, F2 = q + 1 := ⟨F2 - 1, by omega⟩
    have w0 : M.1 0 0 = nI t := by rw [hs 0 (by omega), h.2.2.2.2.1.1, et]
    obtain ⟨r, hr, t1, t2⟩ := t_allowed (hs.rel h) hc (show i ≤ 4 by omega) (show t < 2 ^ 31 by omega)
    obtain ⟨y, M2, i1, i2, i3, i4⟩ := ih (i + 1) F F2 (31 * x + (nI r).toInt64) (upH M (31 * M.2 + (nI r).toInt64)) (by omega) (by omega) (by omega) (hs.mx _) (by rw [pu_H2, hx])
    refine ⟨y, M2, ?_, ?_, i3, i4⟩
    · rw [show f_X5_mixGate_l28 K (F + 1) (nI c) (nI (l c)) x (nI i) = _ from by unfold f_X5_mixGate_l28; rfl]
      rw [if_neg (show ¬ (4 : Int32) < nI i from nI_nlt (a := 4) (b := i) (by omega) (by omega)), et, t1, pu_bnd, mx5, pu_bnd, pu_nm, pu_i1, nI_add]
      exact i1
    · rw [show f_X6_digest_l78 kr (F2 + 1) M (nI c) (nI i) = _ from by unfold f_X6_digest_l78; rfl]
      rw [if_neg (show ¬ (5 : Int32) ≤ nI i from nI_ge (a := i) (b := 5) (by omega) (by omega)), pu_i0, pu_inb (by omega) (by omega), pu_gd, pu_nm, nI_clamp (by omega), w0, t2, pu_bnd, mx6, pu_bnd, pu_nm, pu_i1, nI_add]
      exact i2
theorem d_136 {S : Nat → Nat} {T : Nat} {O : XO} {K : RK} {M0 : MS} (h : TC S T O) (h3 : M0.1 3 3 = nI T) (h1 : ∀ j, j < T → M0.1 1 j = nI (S j)) : ∀ (k i F F2 : Nat) (x : Int64) (M : MS), i + k = T → k < F → k < F2 → SM M0 M → M.2 = x → ∃ (y : Int64) (M2 : MS), f_X5_digest_l136 O K F x (nI i) = some y ∧ f_X6_digest_l186 F2 M (nI i) = some (y, M2) ∧ SM M0 M2 := by
  have hT := h.1
  intro k
  induction k with
  | zero =>
    intro i F F2 x M hi hF hF2 hs hx
    obtain ⟨F, rfl⟩ : ∃ q, F = q + 1 := ⟨F - 1, by omega⟩
    obtain ⟨F2, rfl⟩ : ∃ q, F2 = q + 1 := ⟨F2 - 1, by omega⟩
    refine ⟨x, M, ?_, ?_, hs⟩
    · rw [show f_X5_digest_l136 O K (F + 1) x (nI i) = _ from by unfold f_X5_digest_l136; rfl]
      rw [h.2.1, if_pos (nI_le (by omega) (by omega))]
    · rw [show f_X6_digest_l186 (F2 + 1) M (nI i) = _ from by unfold f_X6_digest_l186; rfl]
      rw [hs 3 (by omega), h3, if_pos (nI_le (by omega) (by omega)), hx]
  | succ k ih =>
    intro i F F2 x M hi hF hF2 hs hx
    obtain ⟨F, rfl⟩ : ∃ q, F = q + 1 := ⟨F - 1, by omega⟩
    obtain ⟨F2, rfl⟩ : ∃ q, F2 = q + 1 := ⟨F2 - 1, by omega⟩
    obtain ⟨y, M2, i1, i2, i3⟩ := ih (i + 1) F F2 (31 * x + (nI (S i)).toInt64) (upH M (31 * M.2 + (nI (S i)).toInt64)) (by omega) (by omega) (by omega) (hs.mx _) (by rw [pu_H2, hx])
    refine ⟨y, M2, ?_, ?_, i3⟩
    · rw [show f_X5_digest_l136 O K (F + 1) x (nI i) = _ from by unfold f_X5_digest_l136; rfl]
      rw [h.2.1, if_neg (nI_ge (by omega) (by omega)), t_sign h (by omega), pu_bnd, mx5, pu_bnd, pu_nm, pu_i1, nI_add]
      exact i1
    · rw [show f_X6_digest_l186 (F2 + 1) M (nI i) = _ from by unfold f_X6_digest_l186; rfl]
      rw [hs 3 (by omega), h3, if_neg (nI_ge (by omega) (by omega)), pu_inb (by omega) (by omega), pu_gd, pu_nm, nI_clamp (by omega), hs 1 (by omega), h1 i (by omega), mx6, pu_bnd, pu_nm, pu_i1, nI_add]
      exact i2
theorem d_60 {B n : Nat} {l : Nat → Nat} {S : Nat → Nat} {T : Nat} {O : XO} {K : RK} {M0 : MS} (h : Rel B n l K (M0.1 0)) (hB : 360 * B < 2 ^ 30) (hT : TC S T O) (h3 : M0.1 3 3 = nI T) (h1 : ∀ j, j < T → M0.1 1 j = nI (S j)) : ∀ (k i F F2 : Nat) (x : Int64) (M : MS), i + k = 3 → k < F → k < F2 → SM M0 M → M.2 = x → ∃ (y : Int64) (M2 : MS), f_X5_digest_l60 O K F x (nI i) = some y ∧ f_X6_digest_l61 F2 M (nI i) = some (y, M2) ∧ SM M0 M2 := by
  have hT60 := hT.1
  obtain ⟨w0, w1, w2, w3, w4, w5, w6, w7, w8, w9, w10, w11, w12, w13, w14, w15⟩ := h.2.2.2.2.1
  intro k
  induction k with
  | zero =>
    intro i F F2 x M hi hF hF2 hs hx
    obtain ⟨F, rfl⟩ : ∃ q, F = q + 1 := ⟨F - 1, by omega⟩
    obtain ⟨F2, rfl⟩ : ∃ q, F2 = q + 1 := ⟨F2 - 1, by omega⟩
    have v8 : M.1 0 8 = K 11 7 := by rw [hs 0 (by omega), w8]
    have s1 := hs.mx (31 * M.2 + (K 11 7).toInt64)
    obtain ⟨Ma, hMa⟩ : ∃ Ma, Ma = upH M (31 * M.2 + (K 11 7).toInt64) := ⟨_, rfl⟩
    rw [← hMa] at s1
    have x1 : Ma.2 = 31 * x + (K 11 7).toInt64 := by rw [hMa, pu_H2, hx]
    have v9 : Ma.1 0 9 = K 11 8 := by rw [s1 0 (by omega), w9]
    have s2 := s1.mx (31 * Ma.2 + (K 11 8).toInt64)
    obtain ⟨Mb, hMb⟩ : ∃ Mb, Mb = upH Ma (31 * Ma.2 + (K 11 8).toInt64) := ⟨_, rfl⟩
    rw [← hMb] at s2
    have x2 : Mb.2 = 31 * (31 * x + (K 11 7).toInt64) + (K 11 8).toInt64 := by rw [hMb, pu_H2, x1]
    obtain ⟨r, d1, d2, d3, d4⟩ := t_decent (s2.rel h) hB
    obtain ⟨bt, hbt⟩ := Option.isSome_iff_exists.mp d4
    rw [hbt] at d3
    have s3 := s2.mx (31 * Mb.2 + bt)
    obtain ⟨Mc, hMc⟩ : ∃ Mc, Mc = upH Mb (31 * Mb.2 + bt) := ⟨_, rfl⟩
    rw [← hMc] at s3
    have x3 : Mc.2 = 31 * (31 * (31 * x + (K 11 7).toInt64) + (K 11 8).toInt64) + bt := by rw [hMc, pu_H2, x2]
    have v3 : Mc.1 3 3 = nI T := by rw [s3 3 (by omega), h3]
    have s4 := s3.mx (31 * Mc.2 + (nI T).toInt64)
    obtain ⟨y, M2, i1, i2, i3⟩ := d_136 (K := K) hT h3 h1 T 0 fuelN fuelN (31 * (31 * (31 * (31 * x + (K 11 7).toInt64) + (K 11 8).toInt64) + bt) + (nI T).toInt64) _ (by omega) (by unfold fuelN; omega) (by unfold fuelN; omega) s4 (by rw [pu_H2, x3])
    have z8 : (8 : Int32).toNatClampNeg = 8 := nI_clamp (n := 8) (by omega)
    have i8 : inb 8 952 = true := pu_inb (a := 8) (N := 952) (by omega) (by omega)
    have i9 : inb 9 952 = true := pu_inb (a := 9) (N := 952) (by omega) (by omega)
    have z9 : (9 : Int32).toNatClampNeg = 9 := nI_clamp (n := 9) (by omega)
    have st0 : f_X0_stopNumber K 0 = some (K 11 7) := rfl
    have st1 : f_X0_stopNumber K 1 = some (K 11 8) := rfl
    refine ⟨y, M2, ?_, ?_, i3⟩
    · rw [show f_X5_digest_l60 O K (F + 1) x (nI i) = _ from by unfold f_X5_digest_l60; rfl]
      rw [if_pos (show (3 : Int32) ≤ nI i from nI_le (a := 3) (b := i) (by omega) (by omega)), st0, pu_bnd, mx5, pu_bnd, st1, pu_bnd, mx5, pu_bnd, d1, pu_bnd, d3, pu_bnd, mx5, pu_bnd, hT.2.1, mx5, pu_bnd]
      exact i1
    · rw [show f_X6_digest_l61 (F2 + 1) M (nI i) = _ from by unfold f_X6_digest_l61; rfl]
      rw [if_pos (show (3 : Int32) ≤ nI i from nI_le (a := 3) (b := i) (by omega) (by omega)), i8, pu_gd, pu_nm, z8, v8, mx6, ← hMa, pu_bnd, i9, pu_gd, pu_nm, z9, v9, mx6, ← hMb, pu_bnd, d2, pu_bnd, hbt, pu_bnd, mx6, ← hMc, pu_bnd, v3, mx6, pu_bnd]
      exact i2
  | succ k ih =>
    intro i F F2 x M hi hF hF2 hs hx
    obtain ⟨F, rfl⟩ : ∃ q, F = q + 1 := ⟨F - 1, by omega⟩
    obtain ⟨F2, rfl⟩ : ∃ q, F2 = q + 1 := ⟨F2 - 1, by omega⟩
    have hc : i < 3 := by omega
    have a9 := h.2.2.2.1.1 i hc
    have v1 : M.1 0 (86 + 11 * i) = nI (l i) := by rw [hs 0 (by omega), (h.2.2.2.2.2.2 i hc).1]
    obtain ⟨r, M1, t1, t2, t3, t4⟩ := d_28 h hB hc (f_X6_digest_l61 F2) 5 0 fuelN fuelN (31 * x + (nI (l i)).toInt64) (upH M (31 * M.2 + (nI (l i)).toInt64)) (by omega) (by unfold fuelN; omega) (by unfold fuelN; omega) (hs.mx _) (by rw [pu_H2, hx])
    have t1' : f_X5_mixGate K x (nI i) = some r := by
      unfold f_X5_mixGate
      rw [pu_at (by omega) (by omega), a9, pu_nm, mx5, pu_bnd]
      exact t1
    obtain ⟨y, M2, i1, i2, i3⟩ := ih (i + 1) F F2 r M1 (by omega) (by omega) (by omega) t3 t4
    refine ⟨y, M2, ?_, ?_, i3⟩
    · rw [show f_X5_digest_l60 O K (F + 1) x (nI i) = _ from by unfold f_X5_digest_l60; rfl]
      rw [if_neg (show ¬ (3 : Int32) ≤ nI i from nI_ge (a := i) (b := 3) (by omega) (by omega)), t1', pu_bnd, pu_nm, pu_i1, nI_add]
      exact i1
    · rw [show f_X6_digest_l61 (F2 + 1) M (nI i) = _ from by unfold f_X6_digest_l61; rfl]
      rw [if_neg (show ¬ (3 : Int32) ≤ nI i from nI_ge (a := i) (b := 3) (by omega) (by omega)), pu_ll hc, pu_bnd, v1, mx6, pu_bnd]
      exact t2.trans i2
theorem z_digest : Sim_digest RR := by
  intro c O K M hc hR
  obtain ⟨M', a1, hR', a3, a4, a5, a6, a7⟩ := bgn hR
  obtain ⟨⟨n, l, h⟩, ⟨ra, rs, x1, x2, x3, x4, x5, x6⟩, hsnap, htxt⟩ := id hR'
  obtain ⟨S, T, t1, t2, t3⟩ := htxt.S
  have hB := (RR.bd hc).2
  have s0 : SM M' (upH M' 3923) := fun r _ => rfl
  obtain ⟨y1, M1, b1, b2, b3, b4⟩ := d_l6 (O := O) h x4 x5 22 0 fuelN fuelN 3923 (upH M' 3923) (by omega) (by unfold fuelN; omega) (by unfold fuelN; omega) s0 rfl
  obtain ⟨y2, M2, c1, c2, c3, c4⟩ := d_31 (O := O) h hB n 0 fuelN fuelN y1 M1 (by omega) (by have := h.n10; unfold fuelN; omega) (by have := h.n10; unfold fuelN; omega) b3 b4
  obtain ⟨y3, M3, e1, e2, e3⟩ := d_60 h hB t1 t2 t3 3 0 fuelN fuelN y2 M2 (by omega) (by unfold fuelN; omega) (by unfold fuelN; omega) c3 c4
  refine ⟨y3, M3, ?_, ?_, RR.mono (hR'.same ⟨?_, ?_, ?_⟩ ?_)⟩
  · unfold f_X5_digest
    rw [pu_nm]
    exact (b1.trans c1).trans e1
  · unfold f_X6_digest
    rw [show upMS M 3 0 0 = M' from a7.symm, pu_nm, pu_nm]
    exact (b2.trans c2).trans e2
  · intro k _
    rw [e3 0 (by omega)]
  · rw [e3 1 (by omega)]
  · intro q _ _
    rw [e3 3 (by omega)]
  · intro j _
    rw [e3 0 (by omega)]
