/-! the pure part of p33: a deed of the law -/
theorem bnd3_id {α β γ : Type} (x : Option (α × β × γ)) : bnd3 x (fun a b c => some (a, b, c)) = x := by
  cases x with
  | none => rfl
  | some q => rfl
/-- a deed: its answer and its state rest on the state and the snapshot alone; it is saved -/
def AP (B : Nat) (S K : RK) (f : XO → Option (Int32 × XO × RK)) : Prop := ∃ (v : Nat) (K2 : RK), v < 2 ^ 31 ∧ SI (B + 1) K2 ∧ ∀ (O : XO) (s : Nat), OI B O s → O 1 = S → ∃ O2 : XO, f O = some (nI v, O2, K2) ∧ OI B O2 (min (s + 1) 6) ∧ LSt O2 (min (s + 1) 6) K ∧ O2 1 = S
theorem AP.eq {B : Nat} {S K : RK} {f g : XO → Option (Int32 × XO × RK)} (h : AP B S K g) (e : ∀ O, f O = g O) : AP B S K f := by
  have : f = g := funext e
  rw [this]
  exact h
theorem ap_of {B : Nat} {S K : RK} {f : XO → Option (Int32 × XO × RK)} (v : Nat) (K2 : RK) (hv : v < 2 ^ 31) (hS : SI (B + 1) K2) (hf : ∀ O O1 : XO, O 8 0 0 = nI 1 → O1 1 = S → f_X2_save O K = some O1 → f O = some (nI v, O1, K2)) : AP B S K f := by
  refine ⟨v, K2, hv, hS, fun O s hO e => ?_⟩
  obtain ⟨O1, h1, h2, h3, h4⟩ := p_save hO K
  exact ⟨O1, hf O O1 hO.2.1 (by rw [h4, e]) h1, h2, h3, by rw [h4, e]⟩
section ACT
variable {B n : Nat} {l : Nat → Nat} {S K : RK}
theorem a_come (h : Inv B n l K) (hn10 : n < 10) {r c p : Nat} (hr : r ≤ 4) (hc : c ≤ 40) (hp : p ≤ 99) : AP B S K (fun O => f_X5_come O K (nI r) (nI c) (nI p)) := by
  have e12 := h.1.e12
  obtain ⟨K2, h1, h2⟩ := i_come h hn10 hr hc hp
  refine ap_of n K2 (by omega) ⟨_, _, h2.mono (by omega)⟩ (fun O O1 _ _ hs => ?_)
  unfold f_X5_come
  simp (disch := omega) only [e12, pu_ndb, f_X5_come_b49, hs, h1, ↓pu_m1, pu_i0, pu_i1, pu_i2, pu_i3, pu_i4, pu_i5, pu_i6, pu_i7, pu_i8, pu_i9, pu_i10, pu_i11, pu_i12, pu_i13, pu_i14, pu_i15, pu_i16, pu_i17, pu_i18, pu_i19, pu_i20, pu_i21, pu_i22, pu_i23, pu_i30, pu_i33, pu_i34, pu_i35, pu_i36, pu_i40, pu_i41, pu_i42, pu_i45, pu_i46, pu_i48, pu_i49, pu_i50, pu_i57, pu_i59, pu_i60, pu_i62, pu_i66, pu_i86, pu_i94, pu_i99, pu_i100, pu_i103, pu_i106, pu_i108, pu_i109, pu_i111, pu_i113, pu_i119, pu_i126, pu_i999, pu_bnd, pu_nm, pu_gd, pu_bnd2, pu_inb, pu_at, pu_put, pu_us, pu_un, pu_Rs, pu_Rn, pu_upS, pu_RR, nI_add, pk_mul, pk_sub, nI_clamp, nI_eq, nI_leI, nI_ltI, pu_nI_mI, pu_mI_nI, pu_mm, pu_nn, pu_nI_le_mI, pu_nI_lt_mI, pu_mI_lt, pu_mI_le, pu_inW, pu_inO, if_pos, if_neg, ↓reduceIte, pu_bnd3]
theorem a_earn (h : Inv B n l K) (hB : 360 * B < 2 ^ 30) {g v : Nat} (hg : g < n) (h1 : 1 ≤ v) (hv : v ≤ 99) : AP B S K (fun O => f_X5_earn O K (nI g) (nI v)) := by
  have hn := h.1.n10
  have hd := pu_ndg h.1.e12 hg (by omega)
  obtain ⟨K2, r, hr, q1, q2⟩ := i_earn h hB hg hv
  refine ap_of r K2 (by omega) ⟨_, _, q2.mono (by omega)⟩ (fun O O1 _ _ hs => ?_)
  unfold f_X5_earn
  simp (disch := omega) only [hd, pu_ndb, hs, q1, ↓pu_m1, pu_i0, pu_i1, pu_i2, pu_i3, pu_i4, pu_i5, pu_i6, pu_i7, pu_i8, pu_i9, pu_i10, pu_i11, pu_i12, pu_i13, pu_i14, pu_i15, pu_i16, pu_i17, pu_i18, pu_i19, pu_i20, pu_i21, pu_i22, pu_i23, pu_i30, pu_i33, pu_i34, pu_i35, pu_i36, pu_i40, pu_i41, pu_i42, pu_i45, pu_i46, pu_i48, pu_i49, pu_i50, pu_i57, pu_i59, pu_i60, pu_i62, pu_i66, pu_i86, pu_i94, pu_i99, pu_i100, pu_i103, pu_i106, pu_i108, pu_i109, pu_i111, pu_i113, pu_i119, pu_i126, pu_i999, pu_bnd, pu_nm, pu_gd, pu_bnd2, pu_inb, pu_at, pu_put, pu_us, pu_un, pu_Rs, pu_Rn, pu_upS, pu_RR, nI_add, pk_mul, pk_sub, nI_clamp, nI_eq, nI_leI, nI_ltI, pu_nI_mI, pu_mI_nI, pu_mm, pu_nn, pu_nI_le_mI, pu_nI_lt_mI, pu_mI_lt, pu_mI_le, pu_inW, pu_inO, if_pos, if_neg, ↓reduceIte, pu_bnd3]
theorem a_pay (h : Inv B n l K) (hB : 360 * B < 2 ^ 30) {g : Nat} (hg : g < n) : AP B S K (fun O => f_X5_pay O K (nI g)) := by
  have hn := h.1.n10
  have hd := pu_ndg h.1.e12 hg (by omega)
  obtain ⟨K2, q1, q2, -, q3⟩ := i_pay h hB hg
  obtain ⟨-, -, ⟨-, b2⟩, -⟩ := h.1.k hB hg
  refine ap_of (nk K 2 g - min (nk K 2 g) (nk K 1 g)) K2 (by omega) ⟨_, _, q3.mono (by omega)⟩ (fun O O1 _ _ hs => ?_)
  unfold f_X5_pay
  simp (disch := omega) only [hd, hs, q1, q2, ↓pu_m1, pu_i0, pu_i1, pu_i2, pu_i3, pu_i4, pu_i5, pu_i6, pu_i7, pu_i8, pu_i9, pu_i10, pu_i11, pu_i12, pu_i13, pu_i14, pu_i15, pu_i16, pu_i17, pu_i18, pu_i19, pu_i20, pu_i21, pu_i22, pu_i23, pu_i30, pu_i33, pu_i34, pu_i35, pu_i36, pu_i40, pu_i41, pu_i42, pu_i45, pu_i46, pu_i48, pu_i49, pu_i50, pu_i57, pu_i59, pu_i60, pu_i62, pu_i66, pu_i86, pu_i94, pu_i99, pu_i100, pu_i103, pu_i106, pu_i108, pu_i109, pu_i111, pu_i113, pu_i119, pu_i126, pu_i999, pu_bnd, pu_nm, pu_gd, pu_bnd2, pu_inb, pu_at, pu_put, pu_us, pu_un, pu_Rs, pu_Rn, pu_upS, pu_RR, nI_add, pk_mul, pk_sub, nI_clamp, nI_eq, nI_leI, nI_ltI, pu_nI_mI, pu_mI_nI, pu_mm, pu_nn, pu_nI_le_mI, pu_nI_lt_mI, pu_mI_lt, pu_mI_le, pu_inW, pu_inO, if_pos, if_neg, ↓reduceIte, pu_bnd3]
theorem a_night (h : Inv B n l K) (hB : 360 * B < 2 ^ 30) : AP B S K (fun O => f_X5_night O K) := by
  have hn := h.1.n10
  obtain ⟨K2, q1, q2, -⟩ := i_night h hB
  have h7 : ∀ m, m ≤ n → ∃ v : Nat, v ≤ m ∧ sI (K 7) m = nI v := by
    intro m
    induction m with
    | zero => intro _; exact ⟨0, by omega, rfl⟩
    | succ m ih =>
      intro hm
      obtain ⟨v, hv, e⟩ := ih (by omega)
      obtain ⟨u, hu, e2⟩ := (h.1.g m (by omega)).2.2.2.2.2
      exact ⟨v + u, by omega, by rw [sI, e, e2, nI_add]⟩
  obtain ⟨v, hv, e⟩ := h7 n (Nat.le_refl _)
  rw [e] at q1
  refine ap_of v K2 (by omega) ⟨_, _, q2⟩ (fun O O1 _ _ hs => ?_)
  unfold f_X5_night
  simp (disch := omega) only [hs, q1, ↓pu_m1, pu_i0, pu_i1, pu_i2, pu_i3, pu_i4, pu_i5, pu_i6, pu_i7, pu_i8, pu_i9, pu_i10, pu_i11, pu_i12, pu_i13, pu_i14, pu_i15, pu_i16, pu_i17, pu_i18, pu_i19, pu_i20, pu_i21, pu_i22, pu_i23, pu_i30, pu_i33, pu_i34, pu_i35, pu_i36, pu_i40, pu_i41, pu_i42, pu_i45, pu_i46, pu_i48, pu_i49, pu_i50, pu_i57, pu_i59, pu_i60, pu_i62, pu_i66, pu_i86, pu_i94, pu_i99, pu_i100, pu_i103, pu_i106, pu_i108, pu_i109, pu_i111, pu_i113, pu_i119, pu_i126, pu_i999, pu_bnd, pu_nm, pu_gd, pu_bnd2, pu_inb, pu_at, pu_put, pu_us, pu_un, pu_Rs, pu_Rn, pu_upS, pu_RR, nI_add, pk_mul, pk_sub, nI_clamp, nI_eq, nI_leI, nI_ltI, pu_nI_mI, pu_mI_nI, pu_mm, pu_nn, pu_nI_le_mI, pu_nI_lt_mI, pu_mI_lt, pu_mI_le, pu_inW, pu_inO, if_pos, if_neg, ↓reduceIte, pu_bnd3]
theorem a_restore (hS : SI B S) (hB : 360 * B < 2 ^ 30) : AP B S K (fun O => f_X5_restore O K) := by
  obtain ⟨n, l, h⟩ := id hS
  obtain ⟨⟨et, ht⟩, -⟩ := h.1.t hB
  refine ap_of (nk S 11 0) S (by omega) (hS.mono (by omega)) (fun O O1 h0 h1 hs => ?_)
  unfold f_X5_restore
  simp (disch := omega) only [h0, pu_ndb, hs, h1, ↓pu_m1, pu_i0, pu_i1, pu_i2, pu_i3, pu_i4, pu_i5, pu_i6, pu_i7, pu_i8, pu_i9, pu_i10, pu_i11, pu_i12, pu_i13, pu_i14, pu_i15, pu_i16, pu_i17, pu_i18, pu_i19, pu_i20, pu_i21, pu_i22, pu_i23, pu_i30, pu_i33, pu_i34, pu_i35, pu_i36, pu_i40, pu_i41, pu_i42, pu_i45, pu_i46, pu_i48, pu_i49, pu_i50, pu_i57, pu_i59, pu_i60, pu_i62, pu_i66, pu_i86, pu_i94, pu_i99, pu_i100, pu_i103, pu_i106, pu_i108, pu_i109, pu_i111, pu_i113, pu_i119, pu_i126, pu_i999, pu_bnd, pu_nm, pu_gd, pu_bnd2, pu_inb, pu_at, pu_put, pu_us, pu_un, pu_Rs, pu_Rn, pu_upS, pu_RR, nI_add, pk_mul, pk_sub, nI_clamp, nI_eq, nI_leI, nI_ltI, pu_nI_mI, pu_mI_nI, pu_mm, pu_nn, pu_nI_le_mI, pu_nI_lt_mI, pu_mI_lt, pu_mI_le, pu_inW, pu_inO, if_pos, if_neg, ↓reduceIte, pu_bnd3]
  rw [← et]
theorem a_open (h : Inv B n l K) (hB : 360 * B < 2 ^ 30 - 360) {c : Nat} (hc : c < 3) (h0 : 0 < l c) : AP B S K (fun O => f_X5_open O K (nI c)) := by
  have a9 := h.1.l.1 c hc
  have lc := h.1.l.2.2.1 c hc
  obtain ⟨x, K2, l2, hx, ex, q1, q2, -⟩ := i_open h hB hc h0
  obtain ⟨-, he⟩ := e_ells h.1 (show 360 * B < 2 ^ 30 by omega) hx hc
  refine ap_of (eN K x c) K2 (by omega) ⟨_, _, q2⟩ (fun O O1 _ _ hs => ?_)
  unfold f_X5_open f_X5_isGate
  simp (disch := omega) only [pu_ndb, a9, f_X5_open_b29, hs, q1, ↓pu_m1, pu_i0, pu_i1, pu_i2, pu_i3, pu_i4, pu_i5, pu_i6, pu_i7, pu_i8, pu_i9, pu_i10, pu_i11, pu_i12, pu_i13, pu_i14, pu_i15, pu_i16, pu_i17, pu_i18, pu_i19, pu_i20, pu_i21, pu_i22, pu_i23, pu_i30, pu_i33, pu_i34, pu_i35, pu_i36, pu_i40, pu_i41, pu_i42, pu_i45, pu_i46, pu_i48, pu_i49, pu_i50, pu_i57, pu_i59, pu_i60, pu_i62, pu_i66, pu_i86, pu_i94, pu_i99, pu_i100, pu_i103, pu_i106, pu_i108, pu_i109, pu_i111, pu_i113, pu_i119, pu_i126, pu_i999, pu_bnd, pu_nm, pu_gd, pu_bnd2, pu_inb, pu_at, pu_put, pu_us, pu_un, pu_Rs, pu_Rn, pu_upS, pu_RR, nI_add, pk_mul, pk_sub, nI_clamp, nI_eq, nI_leI, nI_ltI, pu_nI_mI, pu_mI_nI, pu_mm, pu_nn, pu_nI_le_mI, pu_nI_lt_mI, pu_mI_lt, pu_mI_le, pu_inW, pu_inO, if_pos, if_neg, ↓reduceIte, pu_bnd3]
theorem a_lend (h : Inv B n l K) (hB : 360 * B < 2 ^ 30) {a b : Nat} (ha : a < n) (hb : b < n) : ∃ r : Nat, r ≤ 3 ∧ f_X5_noLoan K (nI a) (nI b) = some (nI r) ∧ (r = 0 → AP B S K (fun O => f_X5_lend O K (nI a) (nI b))) := by
  have hn := h.1.n10
  have hda := pu_ndg h.1.e12 ha (by omega)
  have hdb := pu_ndg h.1.e12 hb (by omega)
  have mk : ∀ r : Nat, r ≤ 3 → f_X1_reasonNoLoan K (nI a) (nI b) = some (nI r) → (r = 0 → a ≠ b ∧ K 4 a = mI ∧ K 5 a = mI ∧ K 4 b = mI) → ∃ r : Nat, r ≤ 3 ∧ f_X5_noLoan K (nI a) (nI b) = some (nI r) ∧ (r = 0 → AP B S K (fun O => f_X5_lend O K (nI a) (nI b))) := by
    intro r hr e hz
    refine ⟨r, hr, ?_, ?_⟩
    · unfold f_X5_noLoan
      simp (disch := omega) only [hda, hdb, e, ↓pu_m1, pu_i0, pu_i1, pu_i2, pu_i3, pu_i4, pu_i5, pu_i6, pu_i7, pu_i8, pu_i9, pu_i10, pu_i11, pu_i12, pu_i13, pu_i14, pu_i15, pu_i16, pu_i17, pu_i18, pu_i19, pu_i20, pu_i21, pu_i22, pu_i23, pu_i30, pu_i33, pu_i34, pu_i35, pu_i36, pu_i40, pu_i41, pu_i42, pu_i45, pu_i46, pu_i48, pu_i49, pu_i50, pu_i57, pu_i59, pu_i60, pu_i62, pu_i66, pu_i86, pu_i94, pu_i99, pu_i100, pu_i103, pu_i106, pu_i108, pu_i109, pu_i111, pu_i113, pu_i119, pu_i126, pu_i999, pu_bnd, pu_nm, pu_gd, pu_bnd2, pu_inb, pu_at, pu_put, pu_us, pu_un, pu_Rs, pu_Rn, pu_upS, pu_RR, nI_add, pk_mul, pk_sub, nI_clamp, nI_eq, nI_leI, nI_ltI, pu_nI_mI, pu_mI_nI, pu_mm, pu_nn, pu_nI_le_mI, pu_nI_lt_mI, pu_mI_lt, pu_mI_le, pu_inW, pu_inO, if_pos, if_neg, ↓reduceIte, pu_bnd3]
    · intro z
      obtain ⟨z1, z2, z3, z4⟩ := hz z
      subst z
      obtain ⟨K2, q1, q3, q2⟩ := i_lend h ha hb z1 z2 z3 z4
      obtain ⟨-, -, -, ⟨e3, b3⟩, -⟩ := h.1.k hB ha
      refine ap_of (nk K 3 a) K2 (by omega) ⟨_, _, q2.mono (by omega)⟩ (fun O O1 _ _ hs => ?_)
      unfold f_X5_lend
      simp (disch := omega) only [hda, hdb, e, f_X5_lend_b30, pu_ndb, hs, q1, q3, ↓pu_m1, pu_i0, pu_i1, pu_i2, pu_i3, pu_i4, pu_i5, pu_i6, pu_i7, pu_i8, pu_i9, pu_i10, pu_i11, pu_i12, pu_i13, pu_i14, pu_i15, pu_i16, pu_i17, pu_i18, pu_i19, pu_i20, pu_i21, pu_i22, pu_i23, pu_i30, pu_i33, pu_i34, pu_i35, pu_i36, pu_i40, pu_i41, pu_i42, pu_i45, pu_i46, pu_i48, pu_i49, pu_i50, pu_i57, pu_i59, pu_i60, pu_i62, pu_i66, pu_i86, pu_i94, pu_i99, pu_i100, pu_i103, pu_i106, pu_i108, pu_i109, pu_i111, pu_i113, pu_i119, pu_i126, pu_i999, pu_bnd, pu_nm, pu_gd, pu_bnd2, pu_inb, pu_at, pu_put, pu_us, pu_un, pu_Rs, pu_Rn, pu_upS, pu_RR, nI_add, pk_mul, pk_sub, nI_clamp, nI_eq, nI_leI, nI_ltI, pu_nI_mI, pu_mI_nI, pu_mm, pu_nn, pu_nI_le_mI, pu_nI_lt_mI, pu_mI_lt, pu_mI_le, pu_inW, pu_inO, if_pos, if_neg, ↓reduceIte, pu_bnd3]
      rw [← e3]
  have tc := t_wc (K := K) (g := a) (by omega)
  by_cases hab : a = b
  · subst hab
    refine mk 1 (by omega) ?_ (fun z => by omega)
    unfold f_X1_reasonNoLoan
    simp (disch := omega) only [↓pu_m1, pu_i0, pu_i1, pu_i2, pu_i3, pu_i4, pu_i5, pu_i6, pu_i7, pu_i8, pu_i9, pu_i10, pu_i11, pu_i12, pu_i13, pu_i14, pu_i15, pu_i16, pu_i17, pu_i18, pu_i19, pu_i20, pu_i21, pu_i22, pu_i23, pu_i30, pu_i33, pu_i34, pu_i35, pu_i36, pu_i40, pu_i41, pu_i42, pu_i45, pu_i46, pu_i48, pu_i49, pu_i50, pu_i57, pu_i59, pu_i60, pu_i62, pu_i66, pu_i86, pu_i94, pu_i99, pu_i100, pu_i103, pu_i106, pu_i108, pu_i109, pu_i111, pu_i113, pu_i119, pu_i126, pu_i999, pu_bnd, pu_nm, pu_gd, pu_bnd2, pu_inb, pu_at, pu_put, pu_us, pu_un, pu_Rs, pu_Rn, pu_upS, pu_RR, nI_add, pk_mul, pk_sub, nI_clamp, nI_eq, nI_leI, nI_ltI, pu_nI_mI, pu_mI_nI, pu_mm, pu_nn, pu_nI_le_mI, pu_nI_lt_mI, pu_mI_lt, pu_mI_le, pu_inW, pu_inO, if_pos, if_neg, ↓reduceIte, pu_bnd3]
  · rcases wc_three h.1 ha with ⟨q1, q2, q3⟩ | ⟨q1, o, o1, o2, o3, o4, o5⟩ | ⟨o, o1, o2, o3, o4, o5⟩
    · rw [q3] at tc
      rcases (h.1.c b hb).1 with w | ⟨o, o1, o2, o3, o4⟩
      · obtain ⟨i, hi, ei⟩ := (h.1.g b hb).2.2.2.2.2
        have ti := t_isIn (K := K) (g := b) (by omega) hi ei
        rcases (show i = 0 ∨ i = 1 by omega) with z | z <;> subst z
        · refine mk 0 (by omega) ?_ (fun _ => ⟨hab, q1, q2, w⟩)
          unfold f_X1_reasonNoLoan
          simp (disch := omega) only [tc, w, ti, ↓pu_m1, pu_i0, pu_i1, pu_i2, pu_i3, pu_i4, pu_i5, pu_i6, pu_i7, pu_i8, pu_i9, pu_i10, pu_i11, pu_i12, pu_i13, pu_i14, pu_i15, pu_i16, pu_i17, pu_i18, pu_i19, pu_i20, pu_i21, pu_i22, pu_i23, pu_i30, pu_i33, pu_i34, pu_i35, pu_i36, pu_i40, pu_i41, pu_i42, pu_i45, pu_i46, pu_i48, pu_i49, pu_i50, pu_i57, pu_i59, pu_i60, pu_i62, pu_i66, pu_i86, pu_i94, pu_i99, pu_i100, pu_i103, pu_i106, pu_i108, pu_i109, pu_i111, pu_i113, pu_i119, pu_i126, pu_i999, pu_bnd, pu_nm, pu_gd, pu_bnd2, pu_inb, pu_at, pu_put, pu_us, pu_un, pu_Rs, pu_Rn, pu_upS, pu_RR, nI_add, pk_mul, pk_sub, nI_clamp, nI_eq, nI_leI, nI_ltI, pu_nI_mI, pu_mI_nI, pu_mm, pu_nn, pu_nI_le_mI, pu_nI_lt_mI, pu_mI_lt, pu_mI_le, pu_inW, pu_inO, if_pos, if_neg, ↓reduceIte, pu_bnd3]
        · refine mk 3 (by omega) ?_ (fun z => by omega)
          unfold f_X1_reasonNoLoan
          simp (disch := omega) only [tc, w, ti, ↓pu_m1, pu_i0, pu_i1, pu_i2, pu_i3, pu_i4, pu_i5, pu_i6, pu_i7, pu_i8, pu_i9, pu_i10, pu_i11, pu_i12, pu_i13, pu_i14, pu_i15, pu_i16, pu_i17, pu_i18, pu_i19, pu_i20, pu_i21, pu_i22, pu_i23, pu_i30, pu_i33, pu_i34, pu_i35, pu_i36, pu_i40, pu_i41, pu_i42, pu_i45, pu_i46, pu_i48, pu_i49, pu_i50, pu_i57, pu_i59, pu_i60, pu_i62, pu_i66, pu_i86, pu_i94, pu_i99, pu_i100, pu_i103, pu_i106, pu_i108, pu_i109, pu_i111, pu_i113, pu_i119, pu_i126, pu_i999, pu_bnd, pu_nm, pu_gd, pu_bnd2, pu_inb, pu_at, pu_put, pu_us, pu_un, pu_Rs, pu_Rn, pu_upS, pu_RR, nI_add, pk_mul, pk_sub, nI_clamp, nI_eq, nI_leI, nI_ltI, pu_nI_mI, pu_mI_nI, pu_mm, pu_nn, pu_nI_le_mI, pu_nI_lt_mI, pu_mI_lt, pu_mI_le, pu_inW, pu_inO, if_pos, if_neg, ↓reduceIte, pu_bnd3]
      · refine mk 3 (by omega) ?_ (fun z => by omega)
        unfold f_X1_reasonNoLoan
        simp (disch := omega) only [tc, o3, ↓pu_m1, pu_i0, pu_i1, pu_i2, pu_i3, pu_i4, pu_i5, pu_i6, pu_i7, pu_i8, pu_i9, pu_i10, pu_i11, pu_i12, pu_i13, pu_i14, pu_i15, pu_i16, pu_i17, pu_i18, pu_i19, pu_i20, pu_i21, pu_i22, pu_i23, pu_i30, pu_i33, pu_i34, pu_i35, pu_i36, pu_i40, pu_i41, pu_i42, pu_i45, pu_i46, pu_i48, pu_i49, pu_i50, pu_i57, pu_i59, pu_i60, pu_i62, pu_i66, pu_i86, pu_i94, pu_i99, pu_i100, pu_i103, pu_i106, pu_i108, pu_i109, pu_i111, pu_i113, pu_i119, pu_i126, pu_i999, pu_bnd, pu_nm, pu_gd, pu_bnd2, pu_inb, pu_at, pu_put, pu_us, pu_un, pu_Rs, pu_Rn, pu_upS, pu_RR, nI_add, pk_mul, pk_sub, nI_clamp, nI_eq, nI_leI, nI_ltI, pu_nI_mI, pu_mI_nI, pu_mm, pu_nn, pu_nI_le_mI, pu_nI_lt_mI, pu_mI_lt, pu_mI_le, pu_inW, pu_inO, if_pos, if_neg, ↓reduceIte, pu_bnd3]
    · rw [o5] at tc
      refine mk 2 (by omega) ?_ (fun z => by omega)
      unfold f_X1_reasonNoLoan
      simp (disch := omega) only [tc, ↓pu_m1, pu_i0, pu_i1, pu_i2, pu_i3, pu_i4, pu_i5, pu_i6, pu_i7, pu_i8, pu_i9, pu_i10, pu_i11, pu_i12, pu_i13, pu_i14, pu_i15, pu_i16, pu_i17, pu_i18, pu_i19, pu_i20, pu_i21, pu_i22, pu_i23, pu_i30, pu_i33, pu_i34, pu_i35, pu_i36, pu_i40, pu_i41, pu_i42, pu_i45, pu_i46, pu_i48, pu_i49, pu_i50, pu_i57, pu_i59, pu_i60, pu_i62, pu_i66, pu_i86, pu_i94, pu_i99, pu_i100, pu_i103, pu_i106, pu_i108, pu_i109, pu_i111, pu_i113, pu_i119, pu_i126, pu_i999, pu_bnd, pu_nm, pu_gd, pu_bnd2, pu_inb, pu_at, pu_put, pu_us, pu_un, pu_Rs, pu_Rn, pu_upS, pu_RR, nI_add, pk_mul, pk_sub, nI_clamp, nI_eq, nI_leI, nI_ltI, pu_nI_mI, pu_mI_nI, pu_mm, pu_nn, pu_nI_le_mI, pu_nI_lt_mI, pu_mI_lt, pu_mI_le, pu_inW, pu_inO, if_pos, if_neg, ↓reduceIte, pu_bnd3]
    · rw [o5] at tc
      refine mk 2 (by omega) ?_ (fun z => by omega)
      unfold f_X1_reasonNoLoan
      simp (disch := omega) only [tc, ↓pu_m1, pu_i0, pu_i1, pu_i2, pu_i3, pu_i4, pu_i5, pu_i6, pu_i7, pu_i8, pu_i9, pu_i10, pu_i11, pu_i12, pu_i13, pu_i14, pu_i15, pu_i16, pu_i17, pu_i18, pu_i19, pu_i20, pu_i21, pu_i22, pu_i23, pu_i30, pu_i33, pu_i34, pu_i35, pu_i36, pu_i40, pu_i41, pu_i42, pu_i45, pu_i46, pu_i48, pu_i49, pu_i50, pu_i57, pu_i59, pu_i60, pu_i62, pu_i66, pu_i86, pu_i94, pu_i99, pu_i100, pu_i103, pu_i106, pu_i108, pu_i109, pu_i111, pu_i113, pu_i119, pu_i126, pu_i999, pu_bnd, pu_nm, pu_gd, pu_bnd2, pu_inb, pu_at, pu_put, pu_us, pu_un, pu_Rs, pu_Rn, pu_upS, pu_RR, nI_add, pk_mul, pk_sub, nI_clamp, nI_eq, nI_leI, nI_ltI, pu_nI_mI, pu_mI_nI, pu_mm, pu_nn, pu_nI_le_mI, pu_nI_lt_mI, pu_mI_lt, pu_mI_le, pu_inW, pu_inO, if_pos, if_neg, ↓reduceIte, pu_bnd3]
theorem a_back (h : Inv B n l K) {g o : Nat} (hg : g < n) (ho : o < n) (h4 : K 4 g = nI o) (h7 : K 7 g = nI 0) (h7o : K 7 o = nI 0) : AP B S K (fun O => f_X5_giveBack O K (nI g)) := by
  have hn := h.1.n10
  have hd := pu_ndg h.1.e12 hg (by omega)
  obtain ⟨K2, q1, q2⟩ := i_back h hg ho h4
  have t1 := t_isIn (K := K) (g := g) (by omega) (show 0 ≤ 1 by omega) h7
  have t2 := t_isIn (K := K) (g := o) (by omega) (show 0 ≤ 1 by omega) h7o
  have cr : f_X1_canReturnCoat K (nI g) = some (nI 1) := by
    unfold f_X1_canReturnCoat
    simp (disch := omega) only [h4, t1, t2, ↓pu_m1, pu_i0, pu_i1, pu_i2, pu_i3, pu_i4, pu_i5, pu_i6, pu_i7, pu_i8, pu_i9, pu_i10, pu_i11, pu_i12, pu_i13, pu_i14, pu_i15, pu_i16, pu_i17, pu_i18, pu_i19, pu_i20, pu_i21, pu_i22, pu_i23, pu_i30, pu_i33, pu_i34, pu_i35, pu_i36, pu_i40, pu_i41, pu_i42, pu_i45, pu_i46, pu_i48, pu_i49, pu_i50, pu_i57, pu_i59, pu_i60, pu_i62, pu_i66, pu_i86, pu_i94, pu_i99, pu_i100, pu_i103, pu_i106, pu_i108, pu_i109, pu_i111, pu_i113, pu_i119, pu_i126, pu_i999, pu_bnd, pu_nm, pu_gd, pu_bnd2, pu_inb, pu_at, pu_put, pu_us, pu_un, pu_Rs, pu_Rn, pu_upS, pu_RR, nI_add, pk_mul, pk_sub, nI_clamp, nI_eq, nI_leI, nI_ltI, pu_nI_mI, pu_mI_nI, pu_mm, pu_nn, pu_nI_le_mI, pu_nI_lt_mI, pu_mI_lt, pu_mI_le, pu_inW, pu_inO, if_pos, if_neg, ↓reduceIte, pu_bnd3]
  refine ap_of o K2 (by omega) ⟨_, _, q2.mono (by omega)⟩ (fun O O1 _ _ hs => ?_)
  unfold f_X5_giveBack
  simp (disch := omega) only [hd, cr, pu_ndb, hs, q1, ↓pu_m1, pu_i0, pu_i1, pu_i2, pu_i3, pu_i4, pu_i5, pu_i6, pu_i7, pu_i8, pu_i9, pu_i10, pu_i11, pu_i12, pu_i13, pu_i14, pu_i15, pu_i16, pu_i17, pu_i18, pu_i19, pu_i20, pu_i21, pu_i22, pu_i23, pu_i30, pu_i33, pu_i34, pu_i35, pu_i36, pu_i40, pu_i41, pu_i42, pu_i45, pu_i46, pu_i48, pu_i49, pu_i50, pu_i57, pu_i59, pu_i60, pu_i62, pu_i66, pu_i86, pu_i94, pu_i99, pu_i100, pu_i103, pu_i106, pu_i108, pu_i109, pu_i111, pu_i113, pu_i119, pu_i126, pu_i999, pu_bnd, pu_nm, pu_gd, pu_bnd2, pu_inb, pu_at, pu_put, pu_us, pu_un, pu_Rs, pu_Rn, pu_upS, pu_RR, nI_add, pk_mul, pk_sub, nI_clamp, nI_eq, nI_leI, nI_ltI, pu_nI_mI, pu_mI_nI, pu_mm, pu_nn, pu_nI_le_mI, pu_nI_lt_mI, pu_mI_lt, pu_mI_le, pu_inW, pu_inO, if_pos, if_neg, ↓reduceIte, pu_bnd3]
theorem a_mask (h : Inv B n l K) (hB : 360 * B < 2 ^ 30) {g : Nat} (hg : g < n) : ∃ r : Nat, r ≤ 9 ∧ f_X5_whyNot K (nI g) (nI 1) = some (nI r) ∧ (r = 0 → AP B S K (fun O => f_X5_mask O K (nI g))) := by
  have hn := h.1.n10
  have hd := pu_ndg h.1.e12 hg (by omega)
  obtain ⟨-, ⟨e1, b1⟩, -, -, ⟨e6, b6⟩, -⟩ := h.1.k hB hg
  have mk : ∀ r : Nat, r ≤ 9 → f_X0_reasonNoMask K (nI g) = some (nI r) → (r = 0 → 3 ≤ nk K 1 g) → ∃ r : Nat, r ≤ 9 ∧ f_X5_whyNot K (nI g) (nI 1) = some (nI r) ∧ (r = 0 → AP B S K (fun O => f_X5_mask O K (nI g))) := by
    intro r hr e hz
    refine ⟨r, hr, ?_, ?_⟩
    · unfold f_X5_whyNot
      simp (disch := omega) only [hd, e, ↓pu_m1, pu_i0, pu_i1, pu_i2, pu_i3, pu_i4, pu_i5, pu_i6, pu_i7, pu_i8, pu_i9, pu_i10, pu_i11, pu_i12, pu_i13, pu_i14, pu_i15, pu_i16, pu_i17, pu_i18, pu_i19, pu_i20, pu_i21, pu_i22, pu_i23, pu_i30, pu_i33, pu_i34, pu_i35, pu_i36, pu_i40, pu_i41, pu_i42, pu_i45, pu_i46, pu_i48, pu_i49, pu_i50, pu_i57, pu_i59, pu_i60, pu_i62, pu_i66, pu_i86, pu_i94, pu_i99, pu_i100, pu_i103, pu_i106, pu_i108, pu_i109, pu_i111, pu_i113, pu_i119, pu_i126, pu_i999, pu_bnd, pu_nm, pu_gd, pu_bnd2, pu_inb, pu_at, pu_put, pu_us, pu_un, pu_Rs, pu_Rn, pu_upS, pu_RR, nI_add, pk_mul, pk_sub, nI_clamp, nI_eq, nI_leI, nI_ltI, pu_nI_mI, pu_mI_nI, pu_mm, pu_nn, pu_nI_le_mI, pu_nI_lt_mI, pu_mI_lt, pu_mI_le, pu_inW, pu_inO, if_pos, if_neg, ↓reduceIte, pu_bnd3]
    · intro z
      have z3 := hz z
      subst z
      obtain ⟨K2, v, hv, q1, q2, q3⟩ := i_mask h hB hg z3
      refine ap_of v K2 (by omega) ⟨_, _, q3.mono (by omega)⟩ (fun O O1 _ _ hs => ?_)
      unfold f_X5_mask
      simp (disch := omega) only [hd, e, f_X5_mask_b21, pu_ndb, hs, q1, q2, ↓pu_m1, pu_i0, pu_i1, pu_i2, pu_i3, pu_i4, pu_i5, pu_i6, pu_i7, pu_i8, pu_i9, pu_i10, pu_i11, pu_i12, pu_i13, pu_i14, pu_i15, pu_i16, pu_i17, pu_i18, pu_i19, pu_i20, pu_i21, pu_i22, pu_i23, pu_i30, pu_i33, pu_i34, pu_i35, pu_i36, pu_i40, pu_i41, pu_i42, pu_i45, pu_i46, pu_i48, pu_i49, pu_i50, pu_i57, pu_i59, pu_i60, pu_i62, pu_i66, pu_i86, pu_i94, pu_i99, pu_i100, pu_i103, pu_i106, pu_i108, pu_i109, pu_i111, pu_i113, pu_i119, pu_i126, pu_i999, pu_bnd, pu_nm, pu_gd, pu_bnd2, pu_inb, pu_at, pu_put, pu_us, pu_un, pu_Rs, pu_Rn, pu_upS, pu_RR, nI_add, pk_mul, pk_sub, nI_clamp, nI_eq, nI_leI, nI_ltI, pu_nI_mI, pu_mI_nI, pu_mm, pu_nn, pu_nI_le_mI, pu_nI_lt_mI, pu_mI_lt, pu_mI_le, pu_inW, pu_inO, if_pos, if_neg, ↓reduceIte, pu_bnd3]
  by_cases c1 : nk K 6 g = 0
  · rw [c1] at e6
    by_cases c2 : 3 ≤ nk K 1 g
    · refine mk 0 (by omega) ?_ (fun _ => c2)
      unfold f_X0_reasonNoMask
      simp (disch := omega) only [e6, e1, ↓pu_m1, pu_i0, pu_i1, pu_i2, pu_i3, pu_i4, pu_i5, pu_i6, pu_i7, pu_i8, pu_i9, pu_i10, pu_i11, pu_i12, pu_i13, pu_i14, pu_i15, pu_i16, pu_i17, pu_i18, pu_i19, pu_i20, pu_i21, pu_i22, pu_i23, pu_i30, pu_i33, pu_i34, pu_i35, pu_i36, pu_i40, pu_i41, pu_i42, pu_i45, pu_i46, pu_i48, pu_i49, pu_i50, pu_i57, pu_i59, pu_i60, pu_i62, pu_i66, pu_i86, pu_i94, pu_i99, pu_i100, pu_i103, pu_i106, pu_i108, pu_i109, pu_i111, pu_i113, pu_i119, pu_i126, pu_i999, pu_bnd, pu_nm, pu_gd, pu_bnd2, pu_inb, pu_at, pu_put, pu_us, pu_un, pu_Rs, pu_Rn, pu_upS, pu_RR, nI_add, pk_mul, pk_sub, nI_clamp, nI_eq, nI_leI, nI_ltI, pu_nI_mI, pu_mI_nI, pu_mm, pu_nn, pu_nI_le_mI, pu_nI_lt_mI, pu_mI_lt, pu_mI_le, pu_inW, pu_inO, if_pos, if_neg, ↓reduceIte, pu_bnd3]
    · refine mk 9 (by omega) ?_ (fun z => by omega)
      unfold f_X0_reasonNoMask
      simp (disch := omega) only [e6, e1, ↓pu_m1, pu_i0, pu_i1, pu_i2, pu_i3, pu_i4, pu_i5, pu_i6, pu_i7, pu_i8, pu_i9, pu_i10, pu_i11, pu_i12, pu_i13, pu_i14, pu_i15, pu_i16, pu_i17, pu_i18, pu_i19, pu_i20, pu_i21, pu_i22, pu_i23, pu_i30, pu_i33, pu_i34, pu_i35, pu_i36, pu_i40, pu_i41, pu_i42, pu_i45, pu_i46, pu_i48, pu_i49, pu_i50, pu_i57, pu_i59, pu_i60, pu_i62, pu_i66, pu_i86, pu_i94, pu_i99, pu_i100, pu_i103, pu_i106, pu_i108, pu_i109, pu_i111, pu_i113, pu_i119, pu_i126, pu_i999, pu_bnd, pu_nm, pu_gd, pu_bnd2, pu_inb, pu_at, pu_put, pu_us, pu_un, pu_Rs, pu_Rn, pu_upS, pu_RR, nI_add, pk_mul, pk_sub, nI_clamp, nI_eq, nI_leI, nI_ltI, pu_nI_mI, pu_mI_nI, pu_mm, pu_nn, pu_nI_le_mI, pu_nI_lt_mI, pu_mI_lt, pu_mI_le, pu_inW, pu_inO, if_pos, if_neg, ↓reduceIte, pu_bnd3]
  · refine mk 8 (by omega) ?_ (fun z => by omega)
    unfold f_X0_reasonNoMask
    simp (disch := omega) only [e6, ↓pu_m1, pu_i0, pu_i1, pu_i2, pu_i3, pu_i4, pu_i5, pu_i6, pu_i7, pu_i8, pu_i9, pu_i10, pu_i11, pu_i12, pu_i13, pu_i14, pu_i15, pu_i16, pu_i17, pu_i18, pu_i19, pu_i20, pu_i21, pu_i22, pu_i23, pu_i30, pu_i33, pu_i34, pu_i35, pu_i36, pu_i40, pu_i41, pu_i42, pu_i45, pu_i46, pu_i48, pu_i49, pu_i50, pu_i57, pu_i59, pu_i60, pu_i62, pu_i66, pu_i86, pu_i94, pu_i99, pu_i100, pu_i103, pu_i106, pu_i108, pu_i109, pu_i111, pu_i113, pu_i119, pu_i126, pu_i999, pu_bnd, pu_nm, pu_gd, pu_bnd2, pu_inb, pu_at, pu_put, pu_us, pu_un, pu_Rs, pu_Rn, pu_upS, pu_RR, nI_add, pk_mul, pk_sub, nI_clamp, nI_eq, nI_leI, nI_ltI, pu_nI_mI, pu_mI_nI, pu_mm, pu_nn, pu_nI_le_mI, pu_nI_lt_mI, pu_mI_lt, pu_mI_le, pu_inW, pu_inO, if_pos, if_neg, ↓reduceIte, pu_bnd3]
theorem a_queue (h : Inv B n l K) (hB : 360 * B < 2 ^ 30) {g c : Nat} (hg : g < n) (hc : c < 3) : ∃ r : Nat, r ≤ 7 ∧ f_X5_whyNot K (nI g) (nI 0) = some (nI r) ∧ (r = 0 → AP B S K (fun O => f_X5_queue O K (nI g) (nI c))) := by
  have hn := h.1.n10
  have hd := pu_ndg h.1.e12 hg (by omega)
  obtain ⟨-, -, ⟨e2, b2⟩, -, -, ⟨e7, b7⟩⟩ := h.1.k hB hg
  obtain ⟨-, -, -, -, -, -, ⟨e5, b5⟩⟩ := h.1.t hB
  have ti := t_isIn (K := K) (g := g) (by omega) b7 e7
  have mk : ∀ r : Nat, r ≤ 7 → f_X0_reasonNoLine K (nI g) = some (nI r) → (r = 0 → nInL l K g ∧ nk K 7 g = 0) → ∃ r : Nat, r ≤ 7 ∧ f_X5_whyNot K (nI g) (nI 0) = some (nI r) ∧ (r = 0 → AP B S K (fun O => f_X5_queue O K (nI g) (nI c))) := by
    intro r hr e hz
    refine ⟨r, hr, ?_, ?_⟩
    · unfold f_X5_whyNot
      simp (disch := omega) only [hd, e, ↓pu_m1, pu_i0, pu_i1, pu_i2, pu_i3, pu_i4, pu_i5, pu_i6, pu_i7, pu_i8, pu_i9, pu_i10, pu_i11, pu_i12, pu_i13, pu_i14, pu_i15, pu_i16, pu_i17, pu_i18, pu_i19, pu_i20, pu_i21, pu_i22, pu_i23, pu_i30, pu_i33, pu_i34, pu_i35, pu_i36, pu_i40, pu_i41, pu_i42, pu_i45, pu_i46, pu_i48, pu_i49, pu_i50, pu_i57, pu_i59, pu_i60, pu_i62, pu_i66, pu_i86, pu_i94, pu_i99, pu_i100, pu_i103, pu_i106, pu_i108, pu_i109, pu_i111, pu_i113, pu_i119, pu_i126, pu_i999, pu_bnd, pu_nm, pu_gd, pu_bnd2, pu_inb, pu_at, pu_put, pu_us, pu_un, pu_Rs, pu_Rn, pu_upS, pu_RR, nI_add, pk_mul, pk_sub, nI_clamp, nI_eq, nI_leI, nI_ltI, pu_nI_mI, pu_mI_nI, pu_mm, pu_nn, pu_nI_le_mI, pu_nI_lt_mI, pu_mI_lt, pu_mI_le, pu_inW, pu_inO, if_pos, if_neg, ↓reduceIte, pu_bnd3]
    · intro z
      obtain ⟨z1, z2⟩ := hz z
      subst z
      obtain ⟨K2, l2, hl, q1, q2⟩ := i_queue h hg hc z1 (by rw [e7, z2])
      refine ap_of (l c) K2 (by omega) ⟨_, _, q2.mono (by omega)⟩ (fun O O1 _ _ hs => ?_)
      unfold f_X5_queue f_X5_isGate
      simp (disch := omega) only [hd, e, f_X5_queue_b28, pu_ndb, hs, q1, ↓pu_m1, pu_i0, pu_i1, pu_i2, pu_i3, pu_i4, pu_i5, pu_i6, pu_i7, pu_i8, pu_i9, pu_i10, pu_i11, pu_i12, pu_i13, pu_i14, pu_i15, pu_i16, pu_i17, pu_i18, pu_i19, pu_i20, pu_i21, pu_i22, pu_i23, pu_i30, pu_i33, pu_i34, pu_i35, pu_i36, pu_i40, pu_i41, pu_i42, pu_i45, pu_i46, pu_i48, pu_i49, pu_i50, pu_i57, pu_i59, pu_i60, pu_i62, pu_i66, pu_i86, pu_i94, pu_i99, pu_i100, pu_i103, pu_i106, pu_i108, pu_i109, pu_i111, pu_i113, pu_i119, pu_i126, pu_i999, pu_bnd, pu_nm, pu_gd, pu_bnd2, pu_inb, pu_at, pu_put, pu_us, pu_un, pu_Rs, pu_Rn, pu_upS, pu_RR, nI_add, pk_mul, pk_sub, nI_clamp, nI_eq, nI_leI, nI_ltI, pu_nI_mI, pu_mI_nI, pu_mm, pu_nn, pu_nI_le_mI, pu_nI_lt_mI, pu_mI_lt, pu_mI_le, pu_inW, pu_inO, if_pos, if_neg, ↓reduceIte, pu_bnd3]
  rcases (show nk K 7 g = 0 ∨ nk K 7 g = 1 by omega) with z | z <;> rw [z] at ti
  · obtain ⟨eg, -, w⟩ := e_gate h.1.l hn hg
    rcases w with ⟨w1, w2, -⟩ | ⟨d, k, d1, d2, d3, d4, -⟩
    · rw [w2] at eg
      by_cases q : nk K 2 g ≤ nk K 10 5
      · refine mk 0 (by omega) ?_ (fun _ => ⟨w1, z⟩)
        unfold f_X0_reasonNoLine
        simp (disch := omega) only [ti, eg, e2, e5, ↓pu_m1, pu_i0, pu_i1, pu_i2, pu_i3, pu_i4, pu_i5, pu_i6, pu_i7, pu_i8, pu_i9, pu_i10, pu_i11, pu_i12, pu_i13, pu_i14, pu_i15, pu_i16, pu_i17, pu_i18, pu_i19, pu_i20, pu_i21, pu_i22, pu_i23, pu_i30, pu_i33, pu_i34, pu_i35, pu_i36, pu_i40, pu_i41, pu_i42, pu_i45, pu_i46, pu_i48, pu_i49, pu_i50, pu_i57, pu_i59, pu_i60, pu_i62, pu_i66, pu_i86, pu_i94, pu_i99, pu_i100, pu_i103, pu_i106, pu_i108, pu_i109, pu_i111, pu_i113, pu_i119, pu_i126, pu_i999, pu_bnd, pu_nm, pu_gd, pu_bnd2, pu_inb, pu_at, pu_put, pu_us, pu_un, pu_Rs, pu_Rn, pu_upS, pu_RR, nI_add, pk_mul, pk_sub, nI_clamp, nI_eq, nI_leI, nI_ltI, pu_nI_mI, pu_mI_nI, pu_mm, pu_nn, pu_nI_le_mI, pu_nI_lt_mI, pu_mI_lt, pu_mI_le, pu_inW, pu_inO, if_pos, if_neg, ↓reduceIte, pu_bnd3]
      · refine mk 7 (by omega) ?_ (fun z => by omega)
        unfold f_X0_reasonNoLine
        simp (disch := omega) only [ti, eg, e2, e5, ↓pu_m1, pu_i0, pu_i1, pu_i2, pu_i3, pu_i4, pu_i5, pu_i6, pu_i7, pu_i8, pu_i9, pu_i10, pu_i11, pu_i12, pu_i13, pu_i14, pu_i15, pu_i16, pu_i17, pu_i18, pu_i19, pu_i20, pu_i21, pu_i22, pu_i23, pu_i30, pu_i33, pu_i34, pu_i35, pu_i36, pu_i40, pu_i41, pu_i42, pu_i45, pu_i46, pu_i48, pu_i49, pu_i50, pu_i57, pu_i59, pu_i60, pu_i62, pu_i66, pu_i86, pu_i94, pu_i99, pu_i100, pu_i103, pu_i106, pu_i108, pu_i109, pu_i111, pu_i113, pu_i119, pu_i126, pu_i999, pu_bnd, pu_nm, pu_gd, pu_bnd2, pu_inb, pu_at, pu_put, pu_us, pu_un, pu_Rs, pu_Rn, pu_upS, pu_RR, nI_add, pk_mul, pk_sub, nI_clamp, nI_eq, nI_leI, nI_ltI, pu_nI_mI, pu_mI_nI, pu_mm, pu_nn, pu_nI_le_mI, pu_nI_lt_mI, pu_mI_lt, pu_mI_le, pu_inW, pu_inO, if_pos, if_neg, ↓reduceIte, pu_bnd3]
    · rw [d4] at eg
      refine mk 6 (by omega) ?_ (fun z => by omega)
      unfold f_X0_reasonNoLine
      simp (disch := omega) only [ti, eg, ↓pu_m1, pu_i0, pu_i1, pu_i2, pu_i3, pu_i4, pu_i5, pu_i6, pu_i7, pu_i8, pu_i9, pu_i10, pu_i11, pu_i12, pu_i13, pu_i14, pu_i15, pu_i16, pu_i17, pu_i18, pu_i19, pu_i20, pu_i21, pu_i22, pu_i23, pu_i30, pu_i33, pu_i34, pu_i35, pu_i36, pu_i40, pu_i41, pu_i42, pu_i45, pu_i46, pu_i48, pu_i49, pu_i50, pu_i57, pu_i59, pu_i60, pu_i62, pu_i66, pu_i86, pu_i94, pu_i99, pu_i100, pu_i103, pu_i106, pu_i108, pu_i109, pu_i111, pu_i113, pu_i119, pu_i126, pu_i999, pu_bnd, pu_nm, pu_gd, pu_bnd2, pu_inb, pu_at, pu_put, pu_us, pu_un, pu_Rs, pu_Rn, pu_upS, pu_RR, nI_add, pk_mul, pk_sub, nI_clamp, nI_eq, nI_leI, nI_ltI, pu_nI_mI, pu_mI_nI, pu_mm, pu_nn, pu_nI_le_mI, pu_nI_lt_mI, pu_mI_lt, pu_mI_le, pu_inW, pu_inO, if_pos, if_neg, ↓reduceIte, pu_bnd3]
  · refine mk 5 (by omega) ?_ (fun z => by omega)
    unfold f_X0_reasonNoLine
    simp (disch := omega) only [ti, ↓pu_m1, pu_i0, pu_i1, pu_i2, pu_i3, pu_i4, pu_i5, pu_i6, pu_i7, pu_i8, pu_i9, pu_i10, pu_i11, pu_i12, pu_i13, pu_i14, pu_i15, pu_i16, pu_i17, pu_i18, pu_i19, pu_i20, pu_i21, pu_i22, pu_i23, pu_i30, pu_i33, pu_i34, pu_i35, pu_i36, pu_i40, pu_i41, pu_i42, pu_i45, pu_i46, pu_i48, pu_i49, pu_i50, pu_i57, pu_i59, pu_i60, pu_i62, pu_i66, pu_i86, pu_i94, pu_i99, pu_i100, pu_i103, pu_i106, pu_i108, pu_i109, pu_i111, pu_i113, pu_i119, pu_i126, pu_i999, pu_bnd, pu_nm, pu_gd, pu_bnd2, pu_inb, pu_at, pu_put, pu_us, pu_un, pu_Rs, pu_Rn, pu_upS, pu_RR, nI_add, pk_mul, pk_sub, nI_clamp, nI_eq, nI_leI, nI_ltI, pu_nI_mI, pu_mI_nI, pu_mm, pu_nn, pu_nI_le_mI, pu_nI_lt_mI, pu_mI_lt, pu_mI_le, pu_inW, pu_inO, if_pos, if_neg, ↓reduceIte, pu_bnd3]
theorem a_leave (h : Inv B n l K) (hB : 360 * B < 2 ^ 30) {g : Nat} (hg : g < n) (h1 : wc K g = nI g) (h7 : K 7 g = nI 0) (h8 : gx K g = mI) : AP B S K (fun O => f_X5_leave O K (nI g)) := by
  have hn := h.1.n10
  have hd := pu_ndg h.1.e12 hg (by omega)
  obtain ⟨o4, o5⟩ := wc_own h.1.c hn hg h1
  obtain ⟨eg, -, w⟩ := e_gate h.1.l hn hg
  have hno : nInL l K g := by
    rcases w with ⟨w1, -, -⟩ | ⟨d, k, d1, d2, d3, d4, -⟩
    · exact w1
    · rw [d4] at h8
      exact absurd h8 (nI_nm (by omega))
  rw [h8] at eg
  have tc := t_wc (K := K) (g := g) (by omega)
  rw [h1] at tc
  have ti := t_isIn (K := K) (g := g) (by omega) (show 0 ≤ 1 by omega) h7
  obtain ⟨K2, q1, q2⟩ := i_leave h hB hg o4 o5 hno
  obtain ⟨-, -, ⟨-, b2⟩, -⟩ := h.1.k hB hg
  have cg : f_X0_canGo K (nI g) = some (nI 1) := by
    unfold f_X0_canGo
    simp (disch := omega) only [tc, ti, eg, ↓pu_m1, pu_i0, pu_i1, pu_i2, pu_i3, pu_i4, pu_i5, pu_i6, pu_i7, pu_i8, pu_i9, pu_i10, pu_i11, pu_i12, pu_i13, pu_i14, pu_i15, pu_i16, pu_i17, pu_i18, pu_i19, pu_i20, pu_i21, pu_i22, pu_i23, pu_i30, pu_i33, pu_i34, pu_i35, pu_i36, pu_i40, pu_i41, pu_i42, pu_i45, pu_i46, pu_i48, pu_i49, pu_i50, pu_i57, pu_i59, pu_i60, pu_i62, pu_i66, pu_i86, pu_i94, pu_i99, pu_i100, pu_i103, pu_i106, pu_i108, pu_i109, pu_i111, pu_i113, pu_i119, pu_i126, pu_i999, pu_bnd, pu_nm, pu_gd, pu_bnd2, pu_inb, pu_at, pu_put, pu_us, pu_un, pu_Rs, pu_Rn, pu_upS, pu_RR, nI_add, pk_mul, pk_sub, nI_clamp, nI_eq, nI_leI, nI_ltI, pu_nI_mI, pu_mI_nI, pu_mm, pu_nn, pu_nI_le_mI, pu_nI_lt_mI, pu_mI_lt, pu_mI_le, pu_inW, pu_inO, if_pos, if_neg, ↓reduceIte, pu_bnd3]
  refine ap_of (nk K 2 g) K2 (by omega) ⟨_, _, q2.mono (by omega)⟩ (fun O O1 _ _ hs => ?_)
  unfold f_X5_leave
  simp (disch := omega) only [hd, cg, pu_ndb, hs, q1, ↓pu_m1, pu_i0, pu_i1, pu_i2, pu_i3, pu_i4, pu_i5, pu_i6, pu_i7, pu_i8, pu_i9, pu_i10, pu_i11, pu_i12, pu_i13, pu_i14, pu_i15, pu_i16, pu_i17, pu_i18, pu_i19, pu_i20, pu_i21, pu_i22, pu_i23, pu_i30, pu_i33, pu_i34, pu_i35, pu_i36, pu_i40, pu_i41, pu_i42, pu_i45, pu_i46, pu_i48, pu_i49, pu_i50, pu_i57, pu_i59, pu_i60, pu_i62, pu_i66, pu_i86, pu_i94, pu_i99, pu_i100, pu_i103, pu_i106, pu_i108, pu_i109, pu_i111, pu_i113, pu_i119, pu_i126, pu_i999, pu_bnd, pu_nm, pu_gd, pu_bnd2, pu_inb, pu_at, pu_put, pu_us, pu_un, pu_Rs, pu_Rn, pu_upS, pu_RR, nI_add, pk_mul, pk_sub, nI_clamp, nI_eq, nI_leI, nI_ltI, pu_nI_mI, pu_mI_nI, pu_mm, pu_nn, pu_nI_le_mI, pu_nI_lt_mI, pu_mI_lt, pu_mI_le, pu_inW, pu_inO, if_pos, if_neg, ↓reduceIte, pu_bnd3]
def stMost (i : Nat) : Nat := if i = 0 then 20 else if i = 1 then 10 else if i = 5 then 99 else 9
def stLeast (i : Nat) : Nat := if i = 3 then 1 else if i = 4 then 1 else 0
theorem a_set (h : Inv B n l K) (hB : 360 * B < 2 ^ 30) {i v : Nat} (hi : i < 6) (h1 : stLeast i ≤ v) (hv : v ≤ stMost i) : AP B S K (fun O => f_X5_set O K (nI i) (nI v)) := by
  obtain ⟨-, ⟨e0, b0⟩, ⟨e1, b1⟩, ⟨e2, b2⟩, ⟨e3, b3⟩, ⟨e4, b4⟩, ⟨e5, b5⟩⟩ := h.1.t hB
  have q := i_set h hi hv
  have ev : K 10 i = nI (nk K 10 i) ∧ nk K 10 i ≤ 99 := by
    rcases (show i = 0 ∨ i = 1 ∨ i = 2 ∨ i = 3 ∨ i = 4 ∨ i = 5 by omega) with e | e | e | e | e | e <;> subst e
    · exact ⟨e0, by omega⟩
    · exact ⟨e1, by omega⟩
    · exact ⟨e2, by omega⟩
    · exact ⟨e3, by omega⟩
    · exact ⟨e4, by omega⟩
    · exact ⟨e5, by omega⟩
  have hL : saL i = nI (stLeast i) := by
    rcases (show i = 0 ∨ i = 1 ∨ i = 2 ∨ i = 3 ∨ i = 4 ∨ i = 5 by omega) with e | e | e | e | e | e <;> subst e <;> rfl
  have hM : saM i = nI (stMost i) := by
    rcases (show i = 0 ∨ i = 1 ∨ i = 2 ∨ i = 3 ∨ i = 4 ∨ i = 5 by omega) with e | e | e | e | e | e <;> subst e <;> rfl
  have hm : stMost i ≤ 99 := by
    unfold stMost
    split <;> (try split) <;> (try split) <;> omega
  refine ap_of (nk K 10 i) (upR K 10 (upd (K 10) i (nI v))) (by omega) ⟨_, _, q.mono (by omega)⟩ (fun O O1 _ _ hs => ?_)
  unfold f_X5_set
  simp (disch := omega) only [hL, hM, pu_ndb, hs, ev.1, ↓pu_m1, pu_i0, pu_i1, pu_i2, pu_i3, pu_i4, pu_i5, pu_i6, pu_i7, pu_i8, pu_i9, pu_i10, pu_i11, pu_i12, pu_i13, pu_i14, pu_i15, pu_i16, pu_i17, pu_i18, pu_i19, pu_i20, pu_i21, pu_i22, pu_i23, pu_i30, pu_i33, pu_i34, pu_i35, pu_i36, pu_i40, pu_i41, pu_i42, pu_i45, pu_i46, pu_i48, pu_i49, pu_i50, pu_i57, pu_i59, pu_i60, pu_i62, pu_i66, pu_i86, pu_i94, pu_i99, pu_i100, pu_i103, pu_i106, pu_i108, pu_i109, pu_i111, pu_i113, pu_i119, pu_i126, pu_i999, pu_bnd, pu_nm, pu_gd, pu_bnd2, pu_inb, pu_at, pu_put, pu_us, pu_un, pu_Rs, pu_Rn, pu_upS, pu_RR, nI_add, pk_mul, pk_sub, nI_clamp, nI_eq, nI_leI, nI_ltI, pu_nI_mI, pu_mI_nI, pu_mm, pu_nn, pu_nI_le_mI, pu_nI_lt_mI, pu_mI_lt, pu_mI_le, pu_inW, pu_inO, if_pos, if_neg, ↓reduceIte, pu_bnd3]
end ACT
