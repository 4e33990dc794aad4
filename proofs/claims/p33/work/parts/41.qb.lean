/-! the pure part of p33: where a guest stands; as many stand in the lines as the lines are long -/
theorem e_spot_l {n : Nat} {l : Nat → Nat} {K : RK} (hL : IvL n l K) (hn : n ≤ 10) {g c : Nat} (hg : g < n) (hc : c < 3) (kc : Int32 → Int32 → Option Int32) : ∀ (d k F : Nat), k + d = l c → d < F → (∃ j, k ≤ j ∧ j < l c ∧ K 8 (c * 10 + j) = nI g ∧ f_X3_spotOf_l27 kc K F (nI g) (nI c) (nI (c * 10 + l c)) (nI (c * 10 + k)) = some (nI (c * 10 + j))) ∨ ((∀ j, k ≤ j → j < l c → K 8 (c * 10 + j) ≠ nI g) ∧ f_X3_spotOf_l27 kc K F (nI g) (nI c) (nI (c * 10 + l c)) (nI (c * 10 + k)) = kc (nI g) (nI (c + 1))) := by
  have lc := hL.2.2.1 c hc
  intro d
  induction d with
  | zero =>
    intro k F hk hF
    obtain ⟨F, rfl⟩ : ∃ q, F = q + 1 := ⟨F - 1, by omega⟩
    right
    refine ⟨fun j h1 h2 => by omega, ?_⟩
    rw [show k = l c from by omega]
    unfold f_X3_spotOf_l27
    simp (disch := omega) only [↓pu_m1, pu_i0, pu_i1, pu_i2, pu_i3, pu_i4, pu_i5, pu_i6, pu_i7, pu_i8, pu_i9, pu_i10, pu_i11, pu_i12, pu_i13, pu_i14, pu_i15, pu_i16, pu_i17, pu_i18, pu_i19, pu_i20, pu_i21, pu_i22, pu_i23, pu_i30, pu_i33, pu_i34, pu_i35, pu_i36, pu_i40, pu_i41, pu_i42, pu_i45, pu_i46, pu_i48, pu_i49, pu_i50, pu_i57, pu_i59, pu_i60, pu_i62, pu_i66, pu_i86, pu_i94, pu_i99, pu_i100, pu_i103, pu_i106, pu_i108, pu_i109, pu_i111, pu_i113, pu_i119, pu_i126, pu_i999, pu_bnd, pu_nm, pu_gd, pu_bnd2, pu_inb, pu_at, pu_put, pu_us, pu_un, pu_Rs, pu_Rn, pu_upS, pu_RR, nI_add, pk_mul, pk_sub, nI_clamp, nI_eq, nI_leI, nI_ltI, pu_nI_mI, pu_mI_nI, pu_mm, pu_nn, pu_nI_le_mI, pu_nI_lt_mI, pu_mI_lt, pu_mI_le, pu_inW, pu_inO, if_pos, if_neg, ↓reduceIte, pu_bnd3]
  | succ d ih =>
    intro k F hk hF
    obtain ⟨F, rfl⟩ : ∃ q, F = q + 1 := ⟨F - 1, by omega⟩
    obtain ⟨x, hx, ex⟩ := hL.2.1 c hc k (by omega)
    by_cases e : x = g
    · subst e
      left
      refine ⟨k, by omega, by omega, ex, ?_⟩
      unfold f_X3_spotOf_l27
      simp (disch := omega) only [ex, ↓pu_m1, pu_i0, pu_i1, pu_i2, pu_i3, pu_i4, pu_i5, pu_i6, pu_i7, pu_i8, pu_i9, pu_i10, pu_i11, pu_i12, pu_i13, pu_i14, pu_i15, pu_i16, pu_i17, pu_i18, pu_i19, pu_i20, pu_i21, pu_i22, pu_i23, pu_i30, pu_i33, pu_i34, pu_i35, pu_i36, pu_i40, pu_i41, pu_i42, pu_i45, pu_i46, pu_i48, pu_i49, pu_i50, pu_i57, pu_i59, pu_i60, pu_i62, pu_i66, pu_i86, pu_i94, pu_i99, pu_i100, pu_i103, pu_i106, pu_i108, pu_i109, pu_i111, pu_i113, pu_i119, pu_i126, pu_i999, pu_bnd, pu_nm, pu_gd, pu_bnd2, pu_inb, pu_at, pu_put, pu_us, pu_un, pu_Rs, pu_Rn, pu_upS, pu_RR, nI_add, pk_mul, pk_sub, nI_clamp, nI_eq, nI_leI, nI_ltI, pu_nI_mI, pu_mI_nI, pu_mm, pu_nn, pu_nI_le_mI, pu_nI_lt_mI, pu_mI_lt, pu_mI_le, pu_inW, pu_inO, if_pos, if_neg, ↓reduceIte, pu_bnd3]
    · have ne : K 8 (c * 10 + k) ≠ nI g := by
        rw [ex]
        intro q
        exact e (pu_eqE (by omega) (by omega) q)
      have st : f_X3_spotOf_l27 kc K (F + 1) (nI g) (nI c) (nI (c * 10 + l c)) (nI (c * 10 + k)) = f_X3_spotOf_l27 kc K F (nI g) (nI c) (nI (c * 10 + l c)) (nI (c * 10 + (k + 1))) := by
        rw [show f_X3_spotOf_l27 kc K (F + 1) (nI g) (nI c) (nI (c * 10 + l c)) (nI (c * 10 + k)) = _ from by unfold f_X3_spotOf_l27; rfl]
        simp (disch := omega) only [ex, ↓pu_m1, pu_i0, pu_i1, pu_i2, pu_i3, pu_i4, pu_i5, pu_i6, pu_i7, pu_i8, pu_i9, pu_i10, pu_i11, pu_i12, pu_i13, pu_i14, pu_i15, pu_i16, pu_i17, pu_i18, pu_i19, pu_i20, pu_i21, pu_i22, pu_i23, pu_i30, pu_i33, pu_i34, pu_i35, pu_i36, pu_i40, pu_i41, pu_i42, pu_i45, pu_i46, pu_i48, pu_i49, pu_i50, pu_i57, pu_i59, pu_i60, pu_i62, pu_i66, pu_i86, pu_i94, pu_i99, pu_i100, pu_i103, pu_i106, pu_i108, pu_i109, pu_i111, pu_i113, pu_i119, pu_i126, pu_i999, pu_bnd, pu_nm, pu_gd, pu_bnd2, pu_inb, pu_at, pu_put, pu_us, pu_un, pu_Rs, pu_Rn, pu_upS, pu_RR, nI_add, pk_mul, pk_sub, nI_clamp, nI_eq, nI_leI, nI_ltI, pu_nI_mI, pu_mI_nI, pu_mm, pu_nn, pu_nI_le_mI, pu_nI_lt_mI, pu_mI_lt, pu_mI_le, pu_inW, pu_inO, if_pos, if_neg, ↓reduceIte, pu_bnd3]
        rfl
      rcases ih (k + 1) F (by omega) (by omega) with ⟨j, j1, j2, j3, j4⟩ | ⟨q1, q2⟩
      · exact Or.inl ⟨j, by omega, j2, j3, by rw [st]; exact j4⟩
      · right
        refine ⟨fun j h1 h2 => ?_, by rw [st]; exact q2⟩
        by_cases z : j = k
        · subst z
          exact ne
        · exact q1 j (by omega) h2
theorem e_spot {n : Nat} {l : Nat → Nat} {K : RK} (hL : IvL n l K) (hn : n ≤ 10) {g : Nat} (hg : g < n) : (nInL l K g ∧ f_X3_spotOf K (nI g) = some mI) ∨ ∃ c k : Nat, c < 3 ∧ k < l c ∧ K 8 (c * 10 + k) = nI g ∧ f_X3_spotOf K (nI g) = some (nI (c * 10 + k)) := by
  have st : ∀ (F c : Nat), c < 3 → f_X3_spotOf_l2 K (F + 1) (nI g) (nI c) = f_X3_spotOf_l27 (f_X3_spotOf_l2 K F) K fuelN (nI g) (nI c) (nI (c * 10 + l c)) (nI (c * 10 + 0)) := by
    intro F c hc
    have h9 := hL.1 c hc
    rw [show f_X3_spotOf_l2 K (F + 1) (nI g) (nI c) = _ from by unfold f_X3_spotOf_l2; rfl]
    simp (disch := omega) only [h9, ↓pu_m1, pu_i0, pu_i1, pu_i2, pu_i3, pu_i4, pu_i5, pu_i6, pu_i7, pu_i8, pu_i9, pu_i10, pu_i11, pu_i12, pu_i13, pu_i14, pu_i15, pu_i16, pu_i17, pu_i18, pu_i19, pu_i20, pu_i21, pu_i22, pu_i23, pu_i30, pu_i33, pu_i34, pu_i35, pu_i36, pu_i40, pu_i41, pu_i42, pu_i45, pu_i46, pu_i48, pu_i49, pu_i50, pu_i57, pu_i59, pu_i60, pu_i62, pu_i66, pu_i86, pu_i94, pu_i99, pu_i100, pu_i103, pu_i106, pu_i108, pu_i109, pu_i111, pu_i113, pu_i119, pu_i126, pu_i999, pu_bnd, pu_nm, pu_gd, pu_bnd2, pu_inb, pu_at, pu_put, pu_us, pu_un, pu_Rs, pu_Rn, pu_upS, pu_RR, nI_add, pk_mul, pk_sub, nI_clamp, nI_eq, nI_leI, nI_ltI, pu_nI_mI, pu_mI_nI, pu_mm, pu_nn, pu_nI_le_mI, pu_nI_lt_mI, pu_mI_lt, pu_mI_le, pu_inW, pu_inO, if_pos, if_neg, ↓reduceIte, pu_bnd3]
    rfl
  have en : ∀ F : Nat, f_X3_spotOf_l2 K (F + 1) (nI g) (nI 3) = some mI := by
    intro F
    rw [show f_X3_spotOf_l2 K (F + 1) (nI g) (nI 3) = _ from by unfold f_X3_spotOf_l2; rfl]
    simp (disch := omega) only [↓pu_m1, pu_i0, pu_i1, pu_i2, pu_i3, pu_i4, pu_i5, pu_i6, pu_i7, pu_i8, pu_i9, pu_i10, pu_i11, pu_i12, pu_i13, pu_i14, pu_i15, pu_i16, pu_i17, pu_i18, pu_i19, pu_i20, pu_i21, pu_i22, pu_i23, pu_i30, pu_i33, pu_i34, pu_i35, pu_i36, pu_i40, pu_i41, pu_i42, pu_i45, pu_i46, pu_i48, pu_i49, pu_i50, pu_i57, pu_i59, pu_i60, pu_i62, pu_i66, pu_i86, pu_i94, pu_i99, pu_i100, pu_i103, pu_i106, pu_i108, pu_i109, pu_i111, pu_i113, pu_i119, pu_i126, pu_i999, pu_bnd, pu_nm, pu_gd, pu_bnd2, pu_inb, pu_at, pu_put, pu_us, pu_un, pu_Rs, pu_Rn, pu_upS, pu_RR, nI_add, pk_mul, pk_sub, nI_clamp, nI_eq, nI_leI, nI_ltI, pu_nI_mI, pu_mI_nI, pu_mm, pu_nn, pu_nI_le_mI, pu_nI_lt_mI, pu_mI_lt, pu_mI_le, pu_inW, pu_inO, if_pos, if_neg, ↓reduceIte, pu_bnd3]
  have l0 := hL.2.2.1 0 (by omega)
  have l1 := hL.2.2.1 1 (by omega)
  have l2 := hL.2.2.1 2 (by omega)
  have u : f_X3_spotOf K (nI g) = f_X3_spotOf_l2 K (999 + 1) (nI g) (nI 0) := rfl
  rw [u, st 999 0 (by omega)]
  rcases e_spot_l hL hn hg (show 0 < 3 by omega) (f_X3_spotOf_l2 K 999) (l 0) 0 fuelN (by omega) (by unfold fuelN; omega) with ⟨j, j1, j2, j3, j4⟩ | ⟨p0, q0⟩
  · exact Or.inr ⟨0, j, by omega, j2, j3, j4⟩
  rw [q0, show (999 : Nat) = 998 + 1 from rfl, st 998 1 (by omega)]
  rcases e_spot_l hL hn hg (show 1 < 3 by omega) (f_X3_spotOf_l2 K 998) (l 1) 0 fuelN (by omega) (by unfold fuelN; omega) with ⟨j, j1, j2, j3, j4⟩ | ⟨p1, q1⟩
  · exact Or.inr ⟨1, j, by omega, j2, j3, j4⟩
  rw [q1, show (998 : Nat) = 997 + 1 from rfl, st 997 2 (by omega)]
  rcases e_spot_l hL hn hg (show 2 < 3 by omega) (f_X3_spotOf_l2 K 997) (l 2) 0 fuelN (by omega) (by unfold fuelN; omega) with ⟨j, j1, j2, j3, j4⟩ | ⟨p2, q2⟩
  · exact Or.inr ⟨2, j, by omega, j2, j3, j4⟩
  rw [q2, show (997 : Nat) = 996 + 1 from rfl, en 996]
  refine Or.inl ⟨?_, rfl⟩
  intro c hc k hk
  rcases (show c = 0 ∨ c = 1 ∨ c = 2 by omega) with e | e | e <;> subst e
  · exact p0 k (Nat.zero_le _) hk
  · exact p1 k (Nat.zero_le _) hk
  · exact p2 k (Nat.zero_le _) hk
def gx (K : RK) (g : Nat) : Int32 := (f_X3_gateOf K (nI g)).getD 0
def px (K : RK) (g : Nat) : Int32 := (f_X3_placeOf K (nI g)).getD 0
theorem e_gate {n : Nat} {l : Nat → Nat} {K : RK} (hL : IvL n l K) (hn : n ≤ 10) {g : Nat} (hg : g < n) : f_X3_gateOf K (nI g) = some (gx K g) ∧ f_X3_placeOf K (nI g) = some (px K g) ∧ ((nInL l K g ∧ gx K g = mI ∧ px K g = mI) ∨ ∃ c k : Nat, c < 3 ∧ k < l c ∧ K 8 (c * 10 + k) = nI g ∧ gx K g = nI c ∧ px K g = nI k) := by
  rcases e_spot hL hn hg with ⟨h1, h2⟩ | ⟨c, k, h1, h2, h3, h4⟩
  · have a : f_X3_gateOf K (nI g) = some mI := by
      unfold f_X3_gateOf
      simp (disch := omega) only [h2, ↓pu_m1, pu_i0, pu_i1, pu_i2, pu_i3, pu_i4, pu_i5, pu_i6, pu_i7, pu_i8, pu_i9, pu_i10, pu_i11, pu_i12, pu_i13, pu_i14, pu_i15, pu_i16, pu_i17, pu_i18, pu_i19, pu_i20, pu_i21, pu_i22, pu_i23, pu_i30, pu_i33, pu_i34, pu_i35, pu_i36, pu_i40, pu_i41, pu_i42, pu_i45, pu_i46, pu_i48, pu_i49, pu_i50, pu_i57, pu_i59, pu_i60, pu_i62, pu_i66, pu_i86, pu_i94, pu_i99, pu_i100, pu_i103, pu_i106, pu_i108, pu_i109, pu_i111, pu_i113, pu_i119, pu_i126, pu_i999, pu_bnd, pu_nm, pu_gd, pu_bnd2, pu_inb, pu_at, pu_put, pu_us, pu_un, pu_Rs, pu_Rn, pu_upS, pu_RR, nI_add, pk_mul, pk_sub, nI_clamp, nI_eq, nI_leI, nI_ltI, pu_nI_mI, pu_mI_nI, pu_mm, pu_nn, pu_nI_le_mI, pu_nI_lt_mI, pu_mI_lt, pu_mI_le, pu_inW, pu_inO, if_pos, if_neg, ↓reduceIte, pu_bnd3]
    have b : f_X3_placeOf K (nI g) = some mI := by
      unfold f_X3_placeOf
      simp (disch := omega) only [h2, ↓pu_m1, pu_i0, pu_i1, pu_i2, pu_i3, pu_i4, pu_i5, pu_i6, pu_i7, pu_i8, pu_i9, pu_i10, pu_i11, pu_i12, pu_i13, pu_i14, pu_i15, pu_i16, pu_i17, pu_i18, pu_i19, pu_i20, pu_i21, pu_i22, pu_i23, pu_i30, pu_i33, pu_i34, pu_i35, pu_i36, pu_i40, pu_i41, pu_i42, pu_i45, pu_i46, pu_i48, pu_i49, pu_i50, pu_i57, pu_i59, pu_i60, pu_i62, pu_i66, pu_i86, pu_i94, pu_i99, pu_i100, pu_i103, pu_i106, pu_i108, pu_i109, pu_i111, pu_i113, pu_i119, pu_i126, pu_i999, pu_bnd, pu_nm, pu_gd, pu_bnd2, pu_inb, pu_at, pu_put, pu_us, pu_un, pu_Rs, pu_Rn, pu_upS, pu_RR, nI_add, pk_mul, pk_sub, nI_clamp, nI_eq, nI_leI, nI_ltI, pu_nI_mI, pu_mI_nI, pu_mm, pu_nn, pu_nI_le_mI, pu_nI_lt_mI, pu_mI_lt, pu_mI_le, pu_inW, pu_inO, if_pos, if_neg, ↓reduceIte, pu_bnd3]
    unfold gx px
    rw [a, b]
    exact ⟨rfl, rfl, Or.inl ⟨h1, rfl, rfl⟩⟩
  · have hk := hL.2.2.1 c h1
    have e1 : nI (c * 10 + k) / nI 10 = nI c := by rw [pk_div (by omega) (by omega) (by omega), show (c * 10 + k) / 10 = c from by omega]
    have e2 : nI (c * 10 + k) - nI c * nI 10 = nI k := by rw [pk_mul, pk_sub (by omega), show c * 10 + k - c * 10 = k from by omega]
    have a : f_X3_gateOf K (nI g) = some (nI c) := by
      unfold f_X3_gateOf
      simp (disch := omega) only [h4, e1, ↓pu_m1, pu_i0, pu_i1, pu_i2, pu_i3, pu_i4, pu_i5, pu_i6, pu_i7, pu_i8, pu_i9, pu_i10, pu_i11, pu_i12, pu_i13, pu_i14, pu_i15, pu_i16, pu_i17, pu_i18, pu_i19, pu_i20, pu_i21, pu_i22, pu_i23, pu_i30, pu_i33, pu_i34, pu_i35, pu_i36, pu_i40, pu_i41, pu_i42, pu_i45, pu_i46, pu_i48, pu_i49, pu_i50, pu_i57, pu_i59, pu_i60, pu_i62, pu_i66, pu_i86, pu_i94, pu_i99, pu_i100, pu_i103, pu_i106, pu_i108, pu_i109, pu_i111, pu_i113, pu_i119, pu_i126, pu_i999, pu_bnd, pu_nm, pu_gd, pu_bnd2, pu_inb, pu_at, pu_put, pu_us, pu_un, pu_Rs, pu_Rn, pu_upS, pu_RR, nI_add, pk_mul, pk_sub, nI_clamp, nI_eq, nI_leI, nI_ltI, pu_nI_mI, pu_mI_nI, pu_mm, pu_nn, pu_nI_le_mI, pu_nI_lt_mI, pu_mI_lt, pu_mI_le, pu_inW, pu_inO, if_pos, if_neg, ↓reduceIte, pu_bnd3]
    have b : f_X3_placeOf K (nI g) = some (nI k) := by
      unfold f_X3_placeOf
      simp only [h4, pu_bnd, pu_m1, pu_i10, e1, e2]
      rw [if_neg (nI_nm (by omega))]
    unfold gx px
    rw [a, b]
    exact ⟨rfl, rfl, Or.inr ⟨c, k, h1, h2, h3, rfl, rfl⟩⟩
/-! counting -/
def sN (f : Nat → Nat) : Nat → Nat
  | 0 => 0
  | k + 1 => sN f k + f k
theorem sN_congr {f h : Nat → Nat} : ∀ n : Nat, (∀ i, i < n → f i = h i) → sN f n = sN h n := by
  intro n
  induction n with
  | zero => intro _; rfl
  | succ n ih =>
    intro e
    rw [sN, sN, ih (fun i hi => e i (by omega)), e n (by omega)]
theorem sN_zero {f : Nat → Nat} : ∀ n : Nat, (∀ i, i < n → f i = 0) → sN f n = 0 := by
  intro n
  induction n with
  | zero => intro _; rfl
  | succ n ih =>
    intro e
    rw [sN, ih (fun i hi => e i (by omega)), e n (by omega)]
theorem sN_one {f : Nat → Nat} {x : Nat} : ∀ n : Nat, x < n → f x = 1 → (∀ i, i < n → i ≠ x → f i = 0) → sN f n = 1 := by
  intro n
  induction n with
  | zero => intro h; omega
  | succ n ih =>
    intro h h1 h2
    rw [sN]
    by_cases e : x = n
    · subst e
      rw [sN_zero x (fun i hi => h2 i (by omega) (by omega)), h1]
    · rw [ih (by omega) h1 (fun i hi => h2 i (by omega)), h2 n (by omega) (by omega)]
theorem sN_add {f h : Nat → Nat} : ∀ n : Nat, sN (fun i => f i + h i) n = sN f n + sN h n := by
  intro n
  induction n with
  | zero => rfl
  | succ n ih =>
    rw [sN, sN, sN, ih]
    omega
theorem sN_swap {f : Nat → Nat → Nat} {m : Nat} : ∀ n : Nat, sN (fun i => sN (fun j => f i j) m) n = sN (fun j => sN (fun i => f i j) n) m := by
  intro n
  induction n with
  | zero =>
    rw [sN]
    exact (sN_zero m (fun i hi => rfl)).symm
  | succ n ih =>
    rw [sN, ih]
    rw [← sN_add]
    exact sN_congr m (fun j _ => rfl)
theorem sN_n : ∀ n : Nat, sN (fun _ => 1) n = n := by
  intro n
  induction n with
  | zero => rfl
  | succ n ih => rw [sN, ih]
def iD (K : RK) (c k g : Nat) : Nat := if K 8 (c * 10 + k) = nI g then 1 else 0
def lS (K : RK) (n : Nat) : Nat := sN (fun g => if gx K g = mI then 0 else 1) n
theorem lS_eq {n : Nat} {l : Nat → Nat} {K : RK} (hL : IvL n l K) (hn : n ≤ 10) : lS K n = l 0 + l 1 + l 2 := by
  have row : ∀ c, c < 3 → sN (fun g => sN (fun k => iD K c k g) (l c)) n = l c := by
    intro c hc
    rw [sN_swap]
    rw [sN_congr (h := fun _ => 1) (l c) ?_, sN_n]
    intro k hk
    obtain ⟨x, hx, ex⟩ := hL.2.1 c hc k hk
    refine sN_one (x := x) n hx ?_ ?_
    · unfold iD
      rw [if_pos ex]
    · intro i hi hne
      unfold iD
      rw [ex, if_neg]
      intro e
      exact hne (pu_eqE (by omega) (by omega) e).symm
  have each : ∀ g, g < n → (if gx K g = mI then 0 else 1) = sN (fun k => iD K 0 k g) (l 0) + sN (fun k => iD K 1 k g) (l 1) + sN (fun k => iD K 2 k g) (l 2) := by
    intro g hg
    have zero : ∀ c, (∀ k, k < l c → K 8 (c * 10 + k) ≠ nI g) → sN (fun k => iD K c k g) (l c) = 0 := by
      intro c h
      refine sN_zero _ (fun k hk => ?_)
      show iD K c k g = 0
      unfold iD
      rw [if_neg (h k hk)]
    rcases (e_gate hL hn hg).2.2 with ⟨h1, h2, -⟩ | ⟨c, k, h1, h2, h3, h4, -⟩
    · rw [if_pos h2, zero 0 (h1 0 (by omega)), zero 1 (h1 1 (by omega)), zero 2 (h1 2 (by omega))]
    · rw [h4, if_neg (nI_nm (by omega))]
      have one : sN (fun k => iD K c k g) (l c) = 1 := by
        refine sN_one (x := k) _ h2 ?_ ?_
        · show iD K c k g = 1
          unfold iD
          rw [if_pos h3]
        · intro j hj hne
          show iD K c j g = 0
          unfold iD
          rw [if_neg]
          intro e
          exact hne (hL.2.2.2 c h1 j hj c h1 k h2 (e.trans h3.symm)).2
      have oth : ∀ d, d < 3 → d ≠ c → sN (fun k => iD K d k g) (l d) = 0 := by
        intro d hd hne
        refine zero d (fun j hj e => ?_)
        exact hne (hL.2.2.2 d hd j hj c h1 k h2 (e.trans h3.symm)).1
      rcases (show c = 0 ∨ c = 1 ∨ c = 2 by omega) with z | z | z <;> subst z
      · rw [one, oth 1 (by omega) (by omega), oth 2 (by omega) (by omega)]
      · rw [one, oth 0 (by omega) (by omega), oth 2 (by omega) (by omega)]
      · rw [one, oth 0 (by omega) (by omega), oth 1 (by omega) (by omega)]
  unfold lS
  rw [sN_congr n each, sN_add, sN_add, row 0 (by omega), row 1 (by omega), row 2 (by omega)]
