/-! the pure part of p33: the small changes keep the invariants -/
theorem Q_come {B n : Nat} {l : Nat → Nat} {K K2 : RK} (h : Ra B n l K) (hn10 : n < 10) {r c p : Nat} (hr : r ≤ 4) (hc : c ≤ 40) (hp : p ≤ 99) (e0 : K2 0 = upd (K 0) n (nI r)) (e1 : K2 1 = upd (K 1) n (nI p)) (e2 : K2 2 = upd (K 2) n (nI 0)) (e3 : K2 3 = upd (K 3) n (nI c)) (e4 : K2 4 = upd (K 4) n mI) (e5 : K2 5 = upd (K 5) n mI) (e6 : K2 6 = upd (K 6) n (nI 0)) (e7 : K2 7 = upd (K 7) n (nI 0)) (e8 : K2 8 = K 8) (e9 : K2 9 = K 9) (e10 : K2 10 = K 10) (e110 : K2 11 0 = K 11 0) (e12 : K2 12 0 = nI (n + 1)) : Ra B (n + 1) l K2 := by
  obtain ⟨hS, hG, hC, ⟨l1, l2, l3, l4⟩⟩ := h
  have hn : n ≤ 10 := hS.1
  unfold Ra IvS IvG IvC IvL
  rw [e0, e1, e2, e3, e4, e5, e6, e7, e8, e9, e10, e110]
  refine ⟨⟨by omega, e12, hS.2.2⟩, ?_, ?_, ⟨l1, ?_, l3, l4⟩⟩
  · intro j hj
    by_cases e : j = n
    · exact ⟨⟨r, hr, pu_us e⟩, ⟨p, by omega, pu_us e⟩, ⟨0, by omega, pu_us e⟩, ⟨c, hc, pu_us e⟩, ⟨0, by omega, pu_us e⟩, ⟨0, by omega, pu_us e⟩⟩
    · simp (disch := omega) only [pu_un]
      exact hG j (by omega)
  · intro j hj
    by_cases e : j = n
    · exact ⟨Or.inl (pu_us e), Or.inl (pu_us e)⟩
    · rw [pu_un e, pu_un e]
      obtain ⟨q1, q2⟩ := hC j (by omega)
      refine ⟨?_, ?_⟩
      · rcases q1 with q | ⟨o, p1, p2, p3, p4⟩
        · exact Or.inl q
        · exact Or.inr ⟨o, by omega, p2, p3, by rw [pu_un (by omega)]; exact p4⟩
      · rcases q2 with q | ⟨o, p1, p2, p3, p4⟩
        · exact Or.inl q
        · exact Or.inr ⟨o, by omega, p2, p3, by rw [pu_un (by omega)]; exact p4⟩
  · intro d hd k hk
    obtain ⟨x, hx, q⟩ := l2 d hd k hk
    exact ⟨x, by omega, q⟩
theorem Q_leave {B n : Nat} {l : Nat → Nat} {K K2 : RK} (h : Ra B n l K) {g : Nat} (hg : g < n) (o4 : K 4 g = mI) (o5 : K 5 g = mI) (hno : nInL l K g) (e0 : ∀ r, r < 8 → r ≠ 4 → r ≠ 5 → ∀ j, j < n - 1 → K2 r j = K r (sg g j)) (e4 : ∀ j, j < n - 1 → K2 4 j = nw g (K 4 (sg g j))) (e5 : ∀ j, j < n - 1 → K2 5 j = nw g (K 5 (sg g j))) (e8 : ∀ j, j < 30 → K2 8 j = nw g (K 8 j)) (e9 : K2 9 = K 9) (e10 : K2 10 = K 10) (e110 : K2 11 0 = K 11 0) (e12 : K2 12 0 = nI (n - 1)) : Ra B (n - 1) l K2 := by
  obtain ⟨hS, hG, hC, ⟨l1, l2, l3, l4⟩⟩ := h
  have hn : n ≤ 10 := hS.1
  have nog4 : ∀ j, j < n → ∀ o, o < n → K 4 j = nI o → o ≠ g := by
    intro j hj o ho q e
    subst e
    have := (hC.ne hn hj q (by omega)).2.2
    rw [o5, pu_mI_nI (by omega)] at this
    exact this
  have nog5 : ∀ j, j < n → ∀ o, o < n → K 5 j = nI o → o ≠ g := by
    intro j hj o ho q e
    subst e
    have := (hC.ne5 hn hj q (by omega)).2.2
    rw [o4, pu_mI_nI (by omega)] at this
    exact this
  have c4 : ∀ j, j < n - 1 → (K2 4 j = mI ∧ K 4 (sg g j) = mI) ∨ ∃ o, o < n ∧ o ≠ g ∧ o ≠ sg g j ∧ K 4 (sg g j) = nI o ∧ K2 4 j = nI (tg g o) ∧ K 5 o = nI (sg g j) := by
    intro j hj
    have hj2 := sg_lt (g := g) hj
    rcases (hC _ hj2).1 with q | ⟨o, p1, p2, p3, p4⟩
    · left
      exact ⟨by rw [e4 j hj, q, nw_mI (by omega)], q⟩
    · right
      exact ⟨o, p1, nog4 _ hj2 o p1 p3, p2, p3, by rw [e4 j hj, p3, nw_nI (by omega) (by omega)], p4⟩
  have c5 : ∀ j, j < n - 1 → (K2 5 j = mI ∧ K 5 (sg g j) = mI) ∨ ∃ o, o < n ∧ o ≠ g ∧ o ≠ sg g j ∧ K 5 (sg g j) = nI o ∧ K2 5 j = nI (tg g o) ∧ K 4 o = nI (sg g j) := by
    intro j hj
    have hj2 := sg_lt (g := g) hj
    rcases (hC _ hj2).2 with q | ⟨o, p1, p2, p3, p4⟩
    · left
      exact ⟨by rw [e5 j hj, q, nw_mI (by omega)], q⟩
    · right
      exact ⟨o, p1, nog5 _ hj2 o p1 p3, p2, p3, by rw [e5 j hj, p3, nw_nI (by omega) (by omega)], p4⟩
  have tne : ∀ o j, o ≠ g → o ≠ sg g j → tg g o ≠ j := by
    intro o j h1 h2 h3
    apply h2
    rw [← h3, sg_tg h1]
  unfold Ra IvS IvG IvC IvL
  rw [e9, e10, e110]
  refine ⟨⟨by omega, e12, hS.2.2⟩, ?_, ?_, ⟨l1, ?_, l3, ?_⟩⟩
  · intro j hj
    rw [e0 0 (by omega) (by omega) (by omega) j hj, e0 1 (by omega) (by omega) (by omega) j hj, e0 2 (by omega) (by omega) (by omega) j hj, e0 3 (by omega) (by omega) (by omega) j hj, e0 6 (by omega) (by omega) (by omega) j hj, e0 7 (by omega) (by omega) (by omega) j hj]
    exact hG _ (sg_lt hj)
  · intro j hj
    have hj2 := sg_lt (g := g) hj
    refine ⟨?_, ?_⟩
    · rcases c4 j hj with ⟨q, -⟩ | ⟨o, p1, p2, p3, p4, p5, p6⟩
      · exact Or.inl q
      · refine Or.inr ⟨tg g o, tg_lt hg p2 p1, tne o j p2 p3, p5, ?_⟩
        rw [e5 _ (tg_lt hg p2 p1), sg_tg p2, p6, nw_nI (by omega) (by omega), tg_sg]
    · rcases c5 j hj with ⟨q, -⟩ | ⟨o, p1, p2, p3, p4, p5, p6⟩
      · exact Or.inl q
      · refine Or.inr ⟨tg g o, tg_lt hg p2 p1, tne o j p2 p3, p5, ?_⟩
        rw [e4 _ (tg_lt hg p2 p1), sg_tg p2, p6, nw_nI (by omega) (by omega), tg_sg]
  · intro d hd k hk
    have := l3 d hd
    obtain ⟨x, hx, q⟩ := l2 d hd k hk
    have hxg : x ≠ g := by
      intro e
      subst e
      exact hno d hd k hk q
    rw [e8 _ (by omega), q, nw_nI (by omega) (by omega)]
    exact ⟨tg g x, tg_lt hg hxg hx, rfl⟩
  · intro d hd k hk d2 hd2 k2 hk2 e
    have b1 := l3 d hd
    have b2 := l3 d2 hd2
    obtain ⟨x, hx, q⟩ := l2 d hd k hk
    obtain ⟨y, hy, q2⟩ := l2 d2 hd2 k2 hk2
    have hxg : x ≠ g := by
      intro e
      subst e
      exact hno d hd k hk q
    have hyg : y ≠ g := by
      intro e
      subst e
      exact hno d2 hd2 k2 hk2 q2
    rw [e8 _ (by omega), e8 _ (by omega), q, q2, nw_nI (by omega) (by omega), nw_nI (by omega) (by omega)] at e
    have t1 := tg_lt hg hxg hx
    have t2 := tg_lt hg hyg hy
    have e3 := pu_eqE (by omega) (by omega) e
    have e4 : x = y := by rw [← sg_tg hxg, e3, sg_tg hyg]
    exact l4 d hd k hk d2 hd2 k2 hk2 (by rw [q, q2, e4])
theorem sI_skip {f : Nat → Int32} {g : Nat} : ∀ m : Nat, sI (fun j => f (sg g j)) m = if m ≤ g then sI f m else sI f (m + 1) - f g := by
  intro m
  induction m with
  | zero => rw [if_pos (by omega)]; rfl
  | succ m ih =>
    rw [sI, ih]
    unfold sg
    by_cases q : m < g
    · rw [if_pos (by omega), if_pos q, if_pos (by omega), sI]
    · rw [if_neg (show ¬ m + 1 ≤ g by omega), if_neg q]
      by_cases q2 : m = g
      · subst q2
        rw [if_pos (Nat.le_refl _), sI, sI]
        grind
      · rw [if_neg (by omega), sI, sI, sI]
        grind
theorem rg_mono {x : Int32} {a b : Nat} (h : rg x a) (hab : a ≤ b) : rg x b := by
  obtain ⟨v, hv, e⟩ := h
  exact ⟨v, by omega, e⟩
theorem Ra.mono {B B2 n : Nat} {l : Nat → Nat} {K : RK} (hB : B ≤ B2) (h : Ra B n l K) : Ra B2 n l K := by
  obtain ⟨w, hr⟩ := h.rel
  exact Ra.of (hr.mono hB)
theorem Inv.mono {B B2 n : Nat} {l : Nat → Nat} {K : RK} (hB : B ≤ B2) (h : Inv B n l K) : Inv B2 n l K := ⟨h.1.mono hB, h.2⟩
theorem SI.mono {B B2 : Nat} {K : RK} (hB : B ≤ B2) (h : SI B K) : SI B2 K := by
  obtain ⟨n, l, h⟩ := h
  exact ⟨n, l, h.mono hB⟩
section CH
variable {B n : Nat} {l : Nat → Nat} {K : RK}
theorem i_come (h : Inv B n l K) (hn10 : n < 10) {r c p : Nat} (hr : r ≤ 4) (hc : c ≤ 40) (hp : p ≤ 99) : ∃ K2 : RK, f_X0_welcome K (nI r) (nI c) (nI p) = some (nI n, K2) ∧ Inv B (n + 1) l K2 := by
  obtain ⟨hR, ⟨t1, t2, t3⟩, hI⟩ := h
  have e12 := hR.e12
  refine ⟨upR (upR (upR (upR (upR (upR (upR (upR (upR (upR K 11 (upd (upd (K 11) 3 (K 11 3 + nI p)) 4 (K 11 4 + nI c))) 0 (upd (K 0) n (nI r))) 1 (upd (K 1) n (nI p))) 2 (upd (K 2) n (nI 0))) 3 (upd (K 3) n (nI c))) 4 (upd (K 4) n mI)) 5 (upd (K 5) n mI)) 6 (upd (K 6) n (nI 0))) 7 (upd (K 7) n (nI 0))) 12 (upd (K 12) 0 (nI (n + 1))), ?_, ?_, ⟨?_, ?_, ?_⟩, ?_⟩
  · unfold f_X0_welcome f_X1_takeIn
    simp (disch := omega) only [e12, ↓pu_m1, pu_i0, pu_i1, pu_i2, pu_i3, pu_i4, pu_i5, pu_i6, pu_i7, pu_i8, pu_i9, pu_i10, pu_i11, pu_i12, pu_i13, pu_i14, pu_i15, pu_i16, pu_i17, pu_i18, pu_i19, pu_i20, pu_i21, pu_i22, pu_i23, pu_i30, pu_i33, pu_i34, pu_i35, pu_i36, pu_i40, pu_i41, pu_i42, pu_i45, pu_i46, pu_i48, pu_i49, pu_i50, pu_i57, pu_i59, pu_i60, pu_i62, pu_i66, pu_i86, pu_i94, pu_i99, pu_i100, pu_i103, pu_i106, pu_i108, pu_i109, pu_i111, pu_i113, pu_i119, pu_i126, pu_i999, pu_bnd, pu_nm, pu_gd, pu_bnd2, pu_inb, pu_at, pu_put, pu_us, pu_un, pu_Rs, pu_Rn, pu_upS, pu_RR, nI_add, pk_mul, pk_sub, nI_clamp, nI_eq, nI_leI, nI_ltI, pu_nI_mI, pu_mI_nI, pu_mm, pu_nn, pu_nI_le_mI, pu_nI_lt_mI, pu_mI_lt, pu_mI_le, pu_inW, pu_inO, if_pos, if_neg, ↓reduceIte, pu_bnd3]
  · refine Q_come hR hn10 hr hc hp ?_ ?_ ?_ ?_ ?_ ?_ ?_ ?_ ?_ ?_ ?_ ?_ ?_
    all_goals simp (disch := omega) only [pu_Rs, pu_Rn, pu_us, pu_un]
  · simp (disch := omega) only [pu_Rs, pu_Rn, pu_us, pu_un]
    rw [sI_push, t1]
    grind
  · simp (disch := omega) only [pu_Rs, pu_Rn, pu_us, pu_un]
    rw [sI_push, t2]
    grind
  · simp (disch := omega) only [pu_Rs, pu_Rn, pu_us, pu_un]
    exact t3
  · intro c hc k hk x hx e
    simp (disch := omega) only [pu_Rs, pu_Rn] at e ⊢
    obtain ⟨y, hy, ey⟩ := hR.l.2.1 c hc k hk
    have : x = y := pu_eqE (by omega) (by omega) (e.symm.trans ey)
    subst this
    rw [pu_un (by omega)]
    exact hI c hc k hk x hy e
theorem i_leave (h : Inv B n l K) (hB : 360 * B < 2 ^ 30) {g : Nat} (hg : g < n) (o4 : K 4 g = mI) (o5 : K 5 g = mI) (hno : nInL l K g) : ∃ K2 : RK, f_X0_letGo K (nI g) = some (nI (nk K 2 g), K2) ∧ Inv B (n - 1) l K2 := by
  obtain ⟨hR, ⟨t1, t2, t3⟩, hI⟩ := h
  have hn := hR.n10
  have e12 := hR.e12
  obtain ⟨-, -, ⟨e2, -⟩, -⟩ := hR.k hB hg
  have e12' : upR K 11 (upd (upd (K 11) 3 (K 11 3 - K 1 g)) 4 (K 11 4 - K 3 g)) 12 0 = nI n := by
    rw [pu_Rn (by omega)]
    exact e12
  obtain ⟨K6, p1, p2, p3, p4, p5, p6, p7, p8, p9⟩ := o_takeOut hn hg e12'
  simp (disch := omega) only [pu_Rs, pu_Rn] at p3 p4 p5 p6 p7 p8
  obtain ⟨f, u1, u2⟩ := lp_renl (g := g) 30 0 fuelN K6 (by omega) (by unfold fuelN; omega)
  have p2' : ∀ r, r < 8 → r ≠ 4 → r ≠ 5 → ∀ j, j < n - 1 → K6 r j = K r (sg g j) := by
    intro r hr r4 r5 j hj
    rw [p2 r hr r4 r5 j hj, pu_Rn (by omega)]
  have eg : n - 1 + 1 = n := by omega
  refine ⟨upR K6 8 f, ?_, ?_, ⟨?_, ?_, ?_⟩, ?_⟩
  · have u1' : f_X3_renumberWithout K6 (nI g) = some (upR K6 8 f) := u1
    unfold f_X0_letGo
    simp (disch := omega) only [e2, p1, u1', ↓pu_m1, pu_i0, pu_i1, pu_i2, pu_i3, pu_i4, pu_i5, pu_i6, pu_i7, pu_i8, pu_i9, pu_i10, pu_i11, pu_i12, pu_i13, pu_i14, pu_i15, pu_i16, pu_i17, pu_i18, pu_i19, pu_i20, pu_i21, pu_i22, pu_i23, pu_i30, pu_i33, pu_i34, pu_i35, pu_i36, pu_i40, pu_i41, pu_i42, pu_i45, pu_i46, pu_i48, pu_i49, pu_i50, pu_i57, pu_i59, pu_i60, pu_i62, pu_i66, pu_i86, pu_i94, pu_i99, pu_i100, pu_i103, pu_i106, pu_i108, pu_i109, pu_i111, pu_i113, pu_i119, pu_i126, pu_i999, pu_bnd, pu_nm, pu_gd, pu_bnd2, pu_inb, pu_at, pu_put, pu_us, pu_un, pu_Rs, pu_Rn, pu_upS, pu_RR, nI_add, pk_mul, pk_sub, nI_clamp, nI_eq, nI_leI, nI_ltI, pu_nI_mI, pu_mI_nI, pu_mm, pu_nn, pu_nI_le_mI, pu_nI_lt_mI, pu_mI_lt, pu_mI_le, pu_inW, pu_inO, if_pos, if_neg, ↓reduceIte, pu_bnd3]
  · refine Q_leave hR hg o4 o5 hno ?_ ?_ ?_ ?_ ?_ ?_ ?_ ?_
    · intro r hr r4 r5 j hj
      rw [pu_Rn (by omega)]
      exact p2' r hr r4 r5 j hj
    · intro j hj
      rw [pu_Rn (by omega)]
      exact p3 j hj
    · intro j hj
      rw [pu_Rn (by omega)]
      exact p4 j hj
    · intro j hj
      rw [pu_Rs, u2, if_pos (by omega), p5]
    · rw [pu_Rn (by omega)]
      exact p6
    · rw [pu_Rn (by omega)]
      exact p7
    · rw [pu_Rn (by omega), p8, pu_un (by omega), pu_un (by omega)]
    · rw [pu_Rn (by omega)]
      exact p9
  · rw [pu_Rn (by omega), p8, pu_Rn (by omega), sI_congr (h := fun j => K 1 (sg g j)) (n - 1) (fun i hi => p2' 1 (by omega) (by omega) (by omega) i hi), sI_skip]
    simp (disch := omega) only [pu_us, pu_un]
    by_cases q : n - 1 ≤ g
    · have : g = n - 1 := by omega
      subst this
      rw [if_pos (Nat.le_refl _), t1]
      have : sI (K 1) n = sI (K 1) (n - 1) + K 1 (n - 1) := by
        conv => lhs; rw [← eg]
        rfl
      rw [this]
      grind
    · rw [if_neg q, eg, t1]
      grind
  · rw [pu_Rn (by omega), p8, pu_Rn (by omega), sI_congr (h := fun j => K 3 (sg g j)) (n - 1) (fun i hi => p2' 3 (by omega) (by omega) (by omega) i hi), sI_skip]
    simp (disch := omega) only [pu_us, pu_un]
    by_cases q : n - 1 ≤ g
    · have : g = n - 1 := by omega
      subst this
      rw [if_pos (Nat.le_refl _), t2]
      have : sI (K 3) n = sI (K 3) (n - 1) + K 3 (n - 1) := by
        conv => lhs; rw [← eg]
        rfl
      rw [this]
      grind
    · rw [if_neg q, eg, t2]
      grind
  · rw [pu_Rn (by omega), p8]
    simp (disch := omega) only [pu_us, pu_un]
    exact t3
  · intro c hc k hk x hx e
    have lc := hR.l.2.2.1 c hc
    obtain ⟨y, hy, ey⟩ := hR.l.2.1 c hc k hk
    have hyg : y ≠ g := by
      intro q
      subst q
      exact hno c hc k hk ey
    rw [pu_Rs, u2, if_pos (by omega), p5, ey, nw_nI (by omega) (by omega)] at e
    have t := tg_lt hg hyg hy
    have ex : tg g y = x := pu_eqE (by omega) (by omega) e
    rw [pu_Rn (by omega), p2' 7 (by omega) (by omega) (by omega) x hx, ← ex, sg_tg hyg]
    exact hI c hc k hk y hy ey
theorem i_earn (h : Inv B n l K) (hB : 360 * B < 2 ^ 30) {g v : Nat} (hg : g < n) (hv : v ≤ 99) : ∃ (K2 : RK) (r : Nat), r ≤ 999 ∧ f_X0_giveWages K (nI g) (nI v) = some (nI r, K2) ∧ Inv B n l K2 := by
  obtain ⟨hR, ⟨t1, t2, t3⟩, hI⟩ := h
  have hn := hR.n10
  obtain ⟨w, hr⟩ := hR.rel
  obtain ⟨-, ⟨e1, b1⟩, -⟩ := hR.k hB hg
  have e2 : min (nk K 1 g + v) 999 - nk K 1 g = min v (999 - nk K 1 g) := by omega
  have P := P_s4 (P_r1 hr hg (show min (nk K 1 g + v) 999 ≤ 999 by omega)) (K 11 3 + nI (min v (999 - nk K 1 g)))
  simp (disch := omega) only [pu_Rn] at P
  have s := sI_upd (f := K 1) (g := g) (v := nI (min (nk K 1 g + v) 999)) n hg
  have ed : nI (min (nk K 1 g + v) 999) - K 1 g = nI (min v (999 - nk K 1 g)) := by rw [e1, pk_sub (by omega), e2]
  refine ⟨_, min (nk K 1 g + v) 999, by omega, ?_, Ra.of P, ⟨?_, ?_, ?_⟩, ?_⟩
  · unfold f_X0_giveWages
    simp (disch := omega) only [e1, pu_min, e2, ↓pu_m1, pu_i0, pu_i1, pu_i2, pu_i3, pu_i4, pu_i5, pu_i6, pu_i7, pu_i8, pu_i9, pu_i10, pu_i11, pu_i12, pu_i13, pu_i14, pu_i15, pu_i16, pu_i17, pu_i18, pu_i19, pu_i20, pu_i21, pu_i22, pu_i23, pu_i30, pu_i33, pu_i34, pu_i35, pu_i36, pu_i40, pu_i41, pu_i42, pu_i45, pu_i46, pu_i48, pu_i49, pu_i50, pu_i57, pu_i59, pu_i60, pu_i62, pu_i66, pu_i86, pu_i94, pu_i99, pu_i100, pu_i103, pu_i106, pu_i108, pu_i109, pu_i111, pu_i113, pu_i119, pu_i126, pu_i999, pu_bnd, pu_nm, pu_gd, pu_bnd2, pu_inb, pu_at, pu_put, pu_us, pu_un, pu_Rs, pu_Rn, pu_upS, pu_RR, nI_add, pk_mul, pk_sub, nI_clamp, nI_eq, nI_leI, nI_ltI, pu_nI_mI, pu_mI_nI, pu_mm, pu_nn, pu_nI_le_mI, pu_nI_lt_mI, pu_mI_lt, pu_mI_le, pu_inW, pu_inO, if_pos, if_neg, ↓reduceIte, pu_bnd3]
  · simp (disch := omega) only [pu_Rs, pu_Rn, pu_us, pu_un]
    rw [s, ed, t1]
    grind
  · simp (disch := omega) only [pu_Rs, pu_Rn, pu_us, pu_un]
    exact t2
  · simp (disch := omega) only [pu_Rs, pu_Rn, pu_us, pu_un]
    exact t3
  · exact hI
theorem i_mask (h : Inv B n l K) (hB : 360 * B < 2 ^ 30) {g : Nat} (hg : g < n) (h3 : 3 ≤ nk K 1 g) : ∃ (K2 : RK) (r : Nat), r ≤ 999 ∧ f_X0_takeMask K (nI g) = some K2 ∧ K2 1 g = nI r ∧ Inv B n l K2 := by
  obtain ⟨hR, ⟨t1, t2, t3⟩, hI⟩ := h
  have hn := hR.n10
  obtain ⟨w, hr⟩ := hR.rel
  obtain ⟨-, ⟨e1, b1⟩, -⟩ := hR.k hB hg
  obtain ⟨-, -, -, -, -, ⟨e4, b4⟩, -⟩ := hR.t hB
  have P := P_r6 (P_s2 (P_r1 hr hg (show nk K 1 g - 3 ≤ 999 by omega)) (K 11 1 + nI 3)) hg b4
  simp (disch := omega) only [pu_Rn] at P
  have s := sI_upd (f := K 1) (g := g) (v := nI (nk K 1 g - 3)) n hg
  have ed : nI (nk K 1 g - 3) = K 1 g - nI 3 := by rw [e1, pk_sub (by omega)]
  refine ⟨_, nk K 1 g - 3, by omega, ?_, ?_, Ra.of P, ⟨?_, ?_, ?_⟩, ?_⟩
  · unfold f_X0_takeMask f_X1_payFromPurse
    simp (disch := omega) only [e1, e4, ↓pu_m1, pu_i0, pu_i1, pu_i2, pu_i3, pu_i4, pu_i5, pu_i6, pu_i7, pu_i8, pu_i9, pu_i10, pu_i11, pu_i12, pu_i13, pu_i14, pu_i15, pu_i16, pu_i17, pu_i18, pu_i19, pu_i20, pu_i21, pu_i22, pu_i23, pu_i30, pu_i33, pu_i34, pu_i35, pu_i36, pu_i40, pu_i41, pu_i42, pu_i45, pu_i46, pu_i48, pu_i49, pu_i50, pu_i57, pu_i59, pu_i60, pu_i62, pu_i66, pu_i86, pu_i94, pu_i99, pu_i100, pu_i103, pu_i106, pu_i108, pu_i109, pu_i111, pu_i113, pu_i119, pu_i126, pu_i999, pu_bnd, pu_nm, pu_gd, pu_bnd2, pu_inb, pu_at, pu_put, pu_us, pu_un, pu_Rs, pu_Rn, pu_upS, pu_RR, nI_add, pk_mul, pk_sub, nI_clamp, nI_eq, nI_leI, nI_ltI, pu_nI_mI, pu_mI_nI, pu_mm, pu_nn, pu_nI_le_mI, pu_nI_lt_mI, pu_mI_lt, pu_mI_le, pu_inW, pu_inO, if_pos, if_neg, ↓reduceIte, pu_bnd3]
  · simp (disch := omega) only [pu_Rs, pu_Rn, pu_us, pu_un]
  · simp (disch := omega) only [pu_Rs, pu_Rn, pu_us, pu_un]
    rw [s, ed, t1]
    grind
  · simp (disch := omega) only [pu_Rs, pu_Rn, pu_us, pu_un]
    exact t2
  · simp (disch := omega) only [pu_Rs, pu_Rn, pu_us, pu_un]
    exact t3
  · exact hI
theorem i_pay (h : Inv B n l K) (hB : 360 * B < 2 ^ 30) {g : Nat} (hg : g < n) : ∃ K2 : RK, f_X0_payDebts K (nI g) = some K2 ∧ K2 2 g = nI (nk K 2 g - min (nk K 2 g) (nk K 1 g)) ∧ K2 1 g = nI (nk K 1 g - min (nk K 2 g) (nk K 1 g)) ∧ Inv B n l K2 := by
  obtain ⟨hR, ⟨t1, t2, t3⟩, hI⟩ := h
  have hn := hR.n10
  obtain ⟨w, hr⟩ := hR.rel
  obtain ⟨-, ⟨e1, b1⟩, ⟨e2, b2⟩, -⟩ := hR.k hB hg
  have P := P_r2 (P_s2 (P_r1 hr hg (show nk K 1 g - min (nk K 2 g) (nk K 1 g) ≤ 999 by omega)) (K 11 1 + nI (min (nk K 2 g) (nk K 1 g)))) hg (show nk K 2 g - min (nk K 2 g) (nk K 1 g) ≤ 360 * B by omega)
  simp (disch := omega) only [pu_Rn] at P
  have s := sI_upd (f := K 1) (g := g) (v := nI (nk K 1 g - min (nk K 2 g) (nk K 1 g))) n hg
  have ed : nI (nk K 1 g - min (nk K 2 g) (nk K 1 g)) = K 1 g - nI (min (nk K 2 g) (nk K 1 g)) := by
    conv => rhs; rw [e1]
    rw [pk_sub (by omega)]
  refine ⟨_, ?_, ?_, ?_, Ra.of P, ⟨?_, ?_, ?_⟩, ?_⟩
  · unfold f_X0_payDebts f_X1_payFromPurse
    simp (disch := omega) only [e1, e2, pu_min, ↓pu_m1, pu_i0, pu_i1, pu_i2, pu_i3, pu_i4, pu_i5, pu_i6, pu_i7, pu_i8, pu_i9, pu_i10, pu_i11, pu_i12, pu_i13, pu_i14, pu_i15, pu_i16, pu_i17, pu_i18, pu_i19, pu_i20, pu_i21, pu_i22, pu_i23, pu_i30, pu_i33, pu_i34, pu_i35, pu_i36, pu_i40, pu_i41, pu_i42, pu_i45, pu_i46, pu_i48, pu_i49, pu_i50, pu_i57, pu_i59, pu_i60, pu_i62, pu_i66, pu_i86, pu_i94, pu_i99, pu_i100, pu_i103, pu_i106, pu_i108, pu_i109, pu_i111, pu_i113, pu_i119, pu_i126, pu_i999, pu_bnd, pu_nm, pu_gd, pu_bnd2, pu_inb, pu_at, pu_put, pu_us, pu_un, pu_Rs, pu_Rn, pu_upS, pu_RR, nI_add, pk_mul, pk_sub, nI_clamp, nI_eq, nI_leI, nI_ltI, pu_nI_mI, pu_mI_nI, pu_mm, pu_nn, pu_nI_le_mI, pu_nI_lt_mI, pu_mI_lt, pu_mI_le, pu_inW, pu_inO, if_pos, if_neg, ↓reduceIte, pu_bnd3]
  · simp (disch := omega) only [pu_Rs, pu_Rn, pu_us, pu_un]
  · simp (disch := omega) only [pu_Rs, pu_Rn, pu_us, pu_un]
  · simp (disch := omega) only [pu_Rs, pu_Rn, pu_us, pu_un]
    rw [s, ed, t1]
    grind
  · simp (disch := omega) only [pu_Rs, pu_Rn, pu_us, pu_un]
    exact t2
  · simp (disch := omega) only [pu_Rs, pu_Rn, pu_us, pu_un]
    exact t3
  · exact hI
theorem i_lend (h : Inv B n l K) {a b : Nat} (ha : a < n) (hb : b < n) (hab : a ≠ b) (h1 : K 4 a = mI) (h2 : K 5 a = mI) (h3 : K 4 b = mI) : ∃ K2 : RK, f_X1_lendCoat K (nI a) (nI b) = some K2 ∧ K2 3 = K 3 ∧ Inv B n l K2 := by
  obtain ⟨hR, ⟨t1, t2, t3⟩, hI⟩ := h
  have hn := hR.n10
  obtain ⟨w, hr⟩ := hR.rel
  have P := P_lend hr ha hb hab h1 h2 h3
  refine ⟨_, ?_, ?_, Ra.of P, ⟨?_, ?_, ?_⟩, ?_⟩
  · unfold f_X1_lendCoat
    simp (disch := omega) only [↓pu_m1, pu_i0, pu_i1, pu_i2, pu_i3, pu_i4, pu_i5, pu_i6, pu_i7, pu_i8, pu_i9, pu_i10, pu_i11, pu_i12, pu_i13, pu_i14, pu_i15, pu_i16, pu_i17, pu_i18, pu_i19, pu_i20, pu_i21, pu_i22, pu_i23, pu_i30, pu_i33, pu_i34, pu_i35, pu_i36, pu_i40, pu_i41, pu_i42, pu_i45, pu_i46, pu_i48, pu_i49, pu_i50, pu_i57, pu_i59, pu_i60, pu_i62, pu_i66, pu_i86, pu_i94, pu_i99, pu_i100, pu_i103, pu_i106, pu_i108, pu_i109, pu_i111, pu_i113, pu_i119, pu_i126, pu_i999, pu_bnd, pu_nm, pu_gd, pu_bnd2, pu_inb, pu_at, pu_put, pu_us, pu_un, pu_Rs, pu_Rn, pu_upS, pu_RR, nI_add, pk_mul, pk_sub, nI_clamp, nI_eq, nI_leI, nI_ltI, pu_nI_mI, pu_mI_nI, pu_mm, pu_nn, pu_nI_le_mI, pu_nI_lt_mI, pu_mI_lt, pu_mI_le, pu_inW, pu_inO, if_pos, if_neg, ↓reduceIte, pu_bnd3]
  · simp (disch := omega) only [pu_Rn]
  · exact t1
  · exact t2
  · exact t3
  · exact hI
theorem i_back (h : Inv B n l K) {g o : Nat} (hg : g < n) (ho : o < n) (h4 : K 4 g = nI o) : ∃ K2 : RK, f_X1_returnCoat K (nI g) = some (nI o, K2) ∧ Inv B n l K2 := by
  obtain ⟨hR, ⟨t1, t2, t3⟩, hI⟩ := h
  have hn := hR.n10
  obtain ⟨w, hr⟩ := hR.rel
  have P := P_back hr hg (show o < 10 by omega) h4
  refine ⟨_, ?_, Ra.of P, ⟨?_, ?_, ?_⟩, ?_⟩
  · unfold f_X1_returnCoat
    simp (disch := omega) only [h4, ↓pu_m1, pu_i0, pu_i1, pu_i2, pu_i3, pu_i4, pu_i5, pu_i6, pu_i7, pu_i8, pu_i9, pu_i10, pu_i11, pu_i12, pu_i13, pu_i14, pu_i15, pu_i16, pu_i17, pu_i18, pu_i19, pu_i20, pu_i21, pu_i22, pu_i23, pu_i30, pu_i33, pu_i34, pu_i35, pu_i36, pu_i40, pu_i41, pu_i42, pu_i45, pu_i46, pu_i48, pu_i49, pu_i50, pu_i57, pu_i59, pu_i60, pu_i62, pu_i66, pu_i86, pu_i94, pu_i99, pu_i100, pu_i103, pu_i106, pu_i108, pu_i109, pu_i111, pu_i113, pu_i119, pu_i126, pu_i999, pu_bnd, pu_nm, pu_gd, pu_bnd2, pu_inb, pu_at, pu_put, pu_us, pu_un, pu_Rs, pu_Rn, pu_upS, pu_RR, nI_add, pk_mul, pk_sub, nI_clamp, nI_eq, nI_leI, nI_ltI, pu_nI_mI, pu_mI_nI, pu_mm, pu_nn, pu_nI_le_mI, pu_nI_lt_mI, pu_mI_lt, pu_mI_le, pu_inW, pu_inO, if_pos, if_neg, ↓reduceIte, pu_bnd3]
  · exact t1
  · exact t2
  · exact t3
  · exact hI
theorem i_queue (h : Inv B n l K) {g c : Nat} (hg : g < n) (hc : c < 3) (hno : nInL l K g) (h7 : K 7 g = nI 0) : ∃ (K2 : RK) (l2 : Nat → Nat), l c < 10 ∧ f_X3_enter K (nI g) (nI c) = some (nI (l c), K2) ∧ Inv B n l2 K2 := by
  obtain ⟨hR, ⟨t1, t2, t3⟩, hI⟩ := h
  have hn := hR.n10
  obtain ⟨w, hr⟩ := hR.rel
  obtain ⟨hl, P⟩ := P_enter hr hc hg hno
  have a9 := hR.l.1 c hc
  refine ⟨_, _, hl, ?_, Ra.of P, ⟨?_, ?_, ?_⟩, ?_⟩
  · unfold f_X3_enter
    simp (disch := omega) only [a9, ↓pu_m1, pu_i0, pu_i1, pu_i2, pu_i3, pu_i4, pu_i5, pu_i6, pu_i7, pu_i8, pu_i9, pu_i10, pu_i11, pu_i12, pu_i13, pu_i14, pu_i15, pu_i16, pu_i17, pu_i18, pu_i19, pu_i20, pu_i21, pu_i22, pu_i23, pu_i30, pu_i33, pu_i34, pu_i35, pu_i36, pu_i40, pu_i41, pu_i42, pu_i45, pu_i46, pu_i48, pu_i49, pu_i50, pu_i57, pu_i59, pu_i60, pu_i62, pu_i66, pu_i86, pu_i94, pu_i99, pu_i100, pu_i103, pu_i106, pu_i108, pu_i109, pu_i111, pu_i113, pu_i119, pu_i126, pu_i999, pu_bnd, pu_nm, pu_gd, pu_bnd2, pu_inb, pu_at, pu_put, pu_us, pu_un, pu_Rs, pu_Rn, pu_upS, pu_RR, nI_add, pk_mul, pk_sub, nI_clamp, nI_eq, nI_leI, nI_ltI, pu_nI_mI, pu_mI_nI, pu_mm, pu_nn, pu_nI_le_mI, pu_nI_lt_mI, pu_mI_lt, pu_mI_le, pu_inW, pu_inO, if_pos, if_neg, ↓reduceIte, pu_bnd3]
  · exact t1
  · exact t2
  · exact t3
  · intro d hd k hk x hx e
    have ld := hR.l.2.2.1 d hd
    have lc := hR.l.2.2.1 c hc
    simp (disch := omega) only [pu_Rs, pu_Rn] at e ⊢
    replace hk : k < (if d = c then l c + 1 else l d) := hk
    by_cases q : d = c
    · subst q
      rw [if_pos rfl] at hk
      by_cases q2 : k = l d
      · subst q2
        rw [pu_us rfl] at e
        have := pu_eqE (by omega) (by omega) e
        subst this
        exact h7
      · rw [pu_un (by omega)] at e
        exact hI d hd k (by omega) x hx e
    · rw [if_neg q] at hk
      rw [pu_un (by omega)] at e
      exact hI d hd k hk x hx e
theorem i_set (h : Inv B n l K) {i v : Nat} (hi : i < 6) (hv : v ≤ (if i = 0 then 20 else if i = 1 then 10 else if i = 5 then 99 else 9)) : Inv B n l (upR K 10 (upd (K 10) i (nI v))) := by
  obtain ⟨hR, ⟨t1, t2, t3⟩, hI⟩ := h
  obtain ⟨w, hr⟩ := hR.rel
  refine ⟨?_, ⟨t1, t2, t3⟩, hI⟩
  rcases (show i = 0 ∨ i = 1 ∨ i = 2 ∨ i = 3 ∨ i = 4 ∨ i = 5 by omega) with e | e | e | e | e | e <;> subst e
  · exact Ra.of (P_t0 hr hv)
  · exact Ra.of (P_t1 hr hv)
  · exact Ra.of (P_t2 hr hv)
  · exact Ra.of (P_t3 hr hv)
  · exact Ra.of (P_t4 hr hv)
  · exact Ra.of (P_t5 hr hv)
end CH
