/-! the pure part of p33: what a gate would bring is told ahead -/
section AH
variable {B n : Nat} {l : Nat → Nat} {K : RK}
theorem h_551 {s : Nat} {O : XO} {K1 : RK} {y : Int64} (hy : ∀ O, f_L_looks O K = some y) (hO : OI B O s) (hL : LSt O s K) : ∃ (O2 : XO) (s2 : Nat), f_L_isAhead_b551 O K1 y = some (nI 1, O2, K) ∧ OI B O2 s2 ∧ O2 1 = O 1 := by
  obtain ⟨O2, u1, u2, u3⟩ := p_undo (K1 := K1) hO hL
  obtain ⟨a, ⟨-, hs, -, -⟩, -⟩ := hL
  refine ⟨O2, s - 1, ?_, u2, u3⟩
  unfold f_L_isAhead_b551
  rw [u1, pu_bnd3, if_neg (show ¬ nI (s - 1) < 0 from nI_pos (by omega))]
  unfold f_L_isAhead_b563
  rw [if_neg (show ¬ (1 : Int32) = 0 from by decide), hy O2, pu_bnd, lg_same, if_pos (show nI 0 = 0 from rfl)]
  rfl
theorem x_pay (h : Inv B n l K) (hB : 360 * B < 2 ^ 30) {s g : Nat} {O : XO} (hO : OI B O s) (hg : g < n) : ∃ (O2 : XO) (K2 : RK), f_X5_pay O K (nI g) = some (nI (nk K 2 g - min (nk K 2 g) (nk K 1 g)), O2, K2) ∧ OI B O2 (min (s + 1) 6) ∧ LSt O2 (min (s + 1) 6) K ∧ O2 1 = O 1 ∧ K2 2 g = nI (nk K 2 g - min (nk K 2 g) (nk K 1 g)) ∧ K2 1 g = nI (nk K 1 g - min (nk K 2 g) (nk K 1 g)) ∧ Inv B n l K2 := by
  have hn := h.1.n10
  have hd := pu_ndg h.1.e12 hg (by omega)
  obtain ⟨K2, q1, q2, q4, q3⟩ := i_pay h hB hg
  obtain ⟨O1, h1, h2, h3, h4⟩ := p_save hO K
  refine ⟨O1, K2, ?_, h2, h3, h4, q2, q4, q3⟩
  unfold f_X5_pay
  simp (disch := omega) only [hd, h1, q1, q2, ↓pu_m1, pu_i0, pu_i1, pu_i2, pu_i3, pu_i4, pu_i5, pu_i6, pu_i7, pu_i8, pu_i9, pu_i10, pu_i11, pu_i12, pu_i13, pu_i14, pu_i15, pu_i16, pu_i17, pu_i18, pu_i19, pu_i20, pu_i21, pu_i22, pu_i23, pu_i30, pu_i33, pu_i34, pu_i35, pu_i36, pu_i40, pu_i41, pu_i42, pu_i45, pu_i46, pu_i48, pu_i49, pu_i50, pu_i57, pu_i59, pu_i60, pu_i62, pu_i66, pu_i86, pu_i94, pu_i99, pu_i100, pu_i103, pu_i106, pu_i108, pu_i109, pu_i111, pu_i113, pu_i119, pu_i126, pu_i999, pu_bnd, pu_nm, pu_gd, pu_bnd2, pu_inb, pu_at, pu_put, pu_us, pu_un, pu_Rs, pu_Rn, pu_upS, pu_RR, nI_add, pk_mul, pk_sub, nI_clamp, nI_eq, nI_leI, nI_ltI, pu_nI_mI, pu_mI_nI, pu_mm, pu_nn, pu_nI_le_mI, pu_nI_lt_mI, pu_mI_lt, pu_mI_le, pu_inW, pu_inO, if_pos, if_neg, ↓reduceIte, pu_bnd3]
theorem h_493 (h : Inv B n l K) (hB : 360 * B < 2 ^ 30) {s g : Nat} {O : XO} {y : Int64} (hy : ∀ O, f_L_looks O K = some y) (hO : OI B O s) (hg : g < n) : ∃ (O2 : XO) (s2 : Nat), f_L_isAhead_b493 O K (nI g) y 1 = some (nI 1, O2, K) ∧ OI B O2 s2 ∧ O2 1 = O 1 := by
  obtain ⟨-, ⟨e1, b1⟩, ⟨e2, b2⟩, -⟩ := h.1.k hB hg
  obtain ⟨O2, K2, p1, p2, p3, p4, p5, p6, p7⟩ := x_pay h hB hO hg
  obtain ⟨O3, s3, q1, q2, q3⟩ := h_551 (K1 := K2) hy p2 p3
  have g2 : f_X5_guest K (nI g) 2 = some (nI (nk K 2 g)) := by rw [← e2]; exact (e_guest h.1 hg).2.2.1
  have k2 : f_X5_guest K2 (nI g) 2 = some (nI (nk K 2 g - min (nk K 2 g) (nk K 1 g))) := by rw [← p5]; exact (e_guest p7.1 hg).2.2.1
  have k1 : f_X5_guest K2 (nI g) 1 = some (nI (nk K 1 g - min (nk K 2 g) (nk K 1 g))) := by rw [← p6]; exact (e_guest p7.1 hg).2.1
  refine ⟨O3, s3, ?_, q2, by rw [q3, p4]⟩
  unfold f_L_isAhead_b493
  rw [g2, pu_bnd, if_neg (show ¬ (1 : Int32) = 0 from by decide), p1, pu_bnd3, k2, pu_bnd, if_pos rfl, pu_bnd, if_neg (show ¬ nI (nk K 2 g) < nI (nk K 2 g - min (nk K 2 g) (nk K 1 g)) from nI_nlt (by omega) (by omega)), k1, pu_bnd]
  by_cases z : nk K 1 g - min (nk K 2 g) (nk K 1 g) = 0
  · rw [if_pos (show nI (nk K 1 g - min (nk K 2 g) (nk K 1 g)) = 0 from by rw [z]; rfl)]
    exact q1
  · have z2 : nk K 2 g - min (nk K 2 g) (nk K 1 g) = 0 := by omega
    rw [if_neg (nz z (by omega)), pu_bnd, if_pos (show nI (nk K 2 g - min (nk K 2 g) (nk K 1 g)) = 0 from by rw [z2]; rfl)]
    exact q1
theorem sI_zero {f : Nat → Int32} : ∀ n : Nat, (∀ i, i < n → f i = nI 0) → sI f n = nI 0 := by
  intro n
  induction n with
  | zero => intro _; rfl
  | succ n ih =>
    intro e
    rw [sI, ih (fun i hi => e i (by omega)), e n (by omega), nI_add]
theorem bS_zero {K : RK} : ∀ n : Nat, n ≤ 10 → (∀ i, i < n → K 7 i = nI 0) → bS K n = nI 0 := by
  intro n
  induction n with
  | zero => intro _ _; rfl
  | succ n ih =>
    intro hn e
    rw [bS, ih (by omega) (fun i hi => e i (by omega)), e n (by omega), t_shl0 n (by omega)]
    rfl
theorem h_416 (h : Inv B n l K) (hB : 360 * B < 2 ^ 30 - 360) {s g : Nat} {O : XO} {y : Int64} (hy : ∀ O, f_L_looks O K = some y) (hO : OI B O s) (hg : g < n) : ∃ (O2 : XO) (s2 : Nat), f_L_isAhead_b416 O K (nI g) y 1 = some (nI 1, O2, K) ∧ OI B O2 s2 ∧ O2 1 = O 1 := by
  have hn := h.1.n10
  obtain ⟨K2, n1, n2, n3, n4⟩ := i_night h (by omega)
  obtain ⟨O1, h1, h2, h3, h4⟩ := p_save hO K
  obtain ⟨O3, u1, u2, u3⟩ := p_undo (K1 := K2) h2 h3
  obtain ⟨O4, s4, q1, q2, q3⟩ := h_493 h (by omega) hy u2 hg
  have c0 : f_X5_count O K 0 = some (K 11 0) := (e_count O h.1).1
  have c2 : f_X5_count O K 2 = some (sI (K 7) n) := (e_count O h.1).2.2.1
  have d0 : f_X5_count O1 K2 0 = some (K2 11 0) := (e_count O1 n2.1).1
  have d2 : f_X5_count O1 K2 2 = some (nI 0) := by rw [← sI_zero (f := K2 7) n n4]; exact (e_count O1 n2.1).2.2.1
  have d3 : f_X5_count O1 K2 3 = some (nI 0) := (e_count O1 n2.1).2.2.2.1
  have d14 : f_X5_count O1 K2 14 = some (nI 0) := by rw [← bS_zero n hn n4]; exact (e_count O1 n2.1).2.2.2.2.2.2.2.2.2.2.2.2.2.1
  have nt : f_X5_night O K = some (sI (K 7) n, O1, K2) := by
    unfold f_X5_night
    rw [h1, pu_bnd, n1, pu_bnd2]
  refine ⟨O4, s4, ?_, q2, by rw [q3, u3, h4]⟩
  unfold f_L_isAhead_b416
  rw [c2, pu_bnd, c0, pu_bnd, if_neg (show ¬ (1 : Int32) = 0 from by decide), nt, pu_bnd3, if_pos rfl, d2, pu_bnd, if_pos (show nI 0 = 0 from rfl), d3, pu_bnd, if_pos (show nI 0 = 0 from rfl), d14, pu_bnd, if_pos (show nI 0 = 0 from rfl), d0, pu_bnd, n3, if_pos (show K 11 0 + nI 1 = K 11 0 + 1 from rfl), u1, pu_bnd3, if_neg (show ¬ nI (min (s + 1) 6 - 1) < 0 from nI_pos (by omega))]
  exact q1
theorem h_402 (h : Inv B n l K) (hB : 360 * B < 2 ^ 30 - 360) {s g : Nat} {O : XO} {K1 : RK} {y : Int64} (hy : ∀ O, f_L_looks O K = some y) (hO : OI B O s) (hL : LSt O s K) (hg : g < n) : ∃ (O2 : XO) (s2 : Nat), f_L_isAhead_b402 O K1 (nI g) y = some (nI 1, O2, K) ∧ OI B O2 s2 ∧ O2 1 = O 1 := by
  obtain ⟨O2, u1, u2, u3⟩ := p_undo (K1 := K1) hO hL
  obtain ⟨O3, s3, q1, q2, q3⟩ := h_416 h hB hy u2 hg
  obtain ⟨a, ⟨-, hs, -, -⟩, -⟩ := hL
  refine ⟨O3, s3, ?_, q2, by rw [q3, u3]⟩
  unfold f_L_isAhead_b402
  rw [u1, pu_bnd3, if_neg (show ¬ nI (s - 1) < 0 from nI_pos (by omega))]
  unfold f_L_isAhead_b414
  exact q1
/-- the first of a line, as far as it has been looked for -/
def fstN (l : Nat → Nat) (c x i : Nat) : Int32 := if 0 < l c ∧ x < i then nI x else mI
theorem h_208e (h : Inv B n l K) (hB : 360 * B < 2 ^ 30 - 360) {s g c x F : Nat} {O : XO} {y : Int64} (hy : ∀ O, f_L_looks O K = some y) (hO : OI B O s) (hg : g < n) (hc : c < 3) (hx : 0 < l c → x < n ∧ K 8 (c * 10) = nI x) : ∃ (O2 : XO) (s2 : Nat), f_L_isAhead_l208 (F + 1) O K (nI g) (nI c) y (nI 1) (fstN l c x n) (nI n) = some (nI 1, O2, K) ∧ OI B O2 s2 ∧ O2 1 = O 1 := by
  have hn := h.1.n10
  have hB2 : 360 * B < 2 ^ 30 := by omega
  have lc := h.1.l.2.2.1 c hc
  have c1 : f_X5_count O K 1 = some (nI n) := (e_count O h.1).2.1
  unfold f_L_isAhead_l208
  rw [c1, pu_bnd, if_pos (Int32.le_refl _), if_neg (show ¬ nI 1 = 0 from by decide)]
  by_cases z : 0 < l c
  · obtain ⟨hx1, hx2⟩ := hx z
    have ef : fstN l c x n = nI x := by
      unfold fstN
      rw [if_pos ⟨z, hx1⟩]
    rw [ef, if_neg (show ¬ nI x < 0 from nI_pos (by omega))]
    obtain ⟨x', K2, l2, hx', ex', o1, o2, o3, o4, o5, o6, o7⟩ := i_open h hB hc z
    have exx : x' = x := pu_eqE (by omega) (by omega) (ex'.symm.trans hx2)
    subst exx
    obtain ⟨O1, h1, h2, h3, h4⟩ := p_save hO K
    obtain ⟨O4, s4, q1, q2, q3⟩ := h_402 (K1 := K2) h hB hy h2 h3 hg
    obtain ⟨b0, -, -, b3⟩ := e_bringX h.1 hB2 hx' hc
    have b0' : f_X5_ifOpened K (nI x') (nI c) 0 = some (nI (eN K x' c)) := b0
    have b3' : f_X5_ifOpened K (nI x') (nI c) 3 = some (nI (dbN K x' c)) := b3
    obtain ⟨d0, -, -, -, -, -, -, -, d8, -, -, d12, -⟩ := e_count O h.1
    have d8' : f_X5_count O K 8 = some (sI (K 3) n) := d8
    have d12' : f_X5_count O K 12 = some (K 11 6) := d12
    obtain ⟨k0, -, -, -, -, -, -, -, k8, -, -, k12, -⟩ := e_count O1 o2.1
    rw [o5] at k12
    rw [o6] at k8
    have k0' : f_X5_count O1 K2 0 = some (K2 11 0) := k0
    have k8' : f_X5_count O1 K2 8 = some (sI (K 3) n - nI (eN K x' c)) := k8
    have k12' : f_X5_count O1 K2 12 = some (K 11 6 + nI (eN K x' c)) := k12
    obtain ⟨g0, -, g2, -, -, g5, g6, g7, -⟩ := e_guest o2.1 hx'
    rw [o3] at g7
    rw [o4] at g2
    have hB3 : 360 * (B + 1) < 2 ^ 30 := by omega
    obtain ⟨⟨m0, w0⟩, -, -, -, ⟨m6, w6⟩, -⟩ := o2.1.k hB3 hx'
    obtain ⟨⟨mt, wt⟩, -⟩ := o2.1.t hB3
    rw [m0] at g0
    rw [m6] at g6
    rw [mt] at k0'
    have g0' : f_X5_guest K2 (nI x') 0 = some (nI (nk K2 0 x')) := g0
    have g2' : f_X5_guest K2 (nI x') 2 = some (nI (dbN K x' c)) := g2
    have g5' : f_X5_guest K2 (nI x') 5 = some (nI (wlN K2 x')) := g5
    have g6' : f_X5_guest K2 (nI x') 6 = some (nI (nk K2 6 x')) := g6
    have g7' : f_X5_guest K2 (nI x') 7 = some (nI 1) := g7
    have lw := e_law o2.1 hB3 hc w0 (show nk K2 11 0 < 2 ^ 31 by omega)
    obtain ⟨-, wa⟩ := e_allowed o2.1 hB3 hc w0 (show nk K2 11 0 < 2 ^ 31 by omega)
    have a9 := h.1.l.1 c hc
    have op : f_X5_open O K (nI c) = some (nI (eN K x' c), O1, K2) := by
      unfold f_X5_open f_X5_isGate
      simp (disch := omega) only [pu_ndb, a9, f_X5_open_b29, h1, o1, ↓pu_m1, pu_i0, pu_i1, pu_i2, pu_i3, pu_i4, pu_i5, pu_i6, pu_i7, pu_i8, pu_i9, pu_i10, pu_i11, pu_i12, pu_i13, pu_i14, pu_i15, pu_i16, pu_i17, pu_i18, pu_i19, pu_i20, pu_i21, pu_i22, pu_i23, pu_i30, pu_i33, pu_i34, pu_i35, pu_i36, pu_i40, pu_i41, pu_i42, pu_i45, pu_i46, pu_i48, pu_i49, pu_i50, pu_i57, pu_i59, pu_i60, pu_i62, pu_i66, pu_i86, pu_i94, pu_i99, pu_i100, pu_i103, pu_i106, pu_i108, pu_i109, pu_i111, pu_i113, pu_i119, pu_i126, pu_i999, pu_bnd, pu_nm, pu_gd, pu_bnd2, pu_inb, pu_at, pu_put, pu_us, pu_un, pu_Rs, pu_Rn, pu_upS, pu_RR, nI_add, pk_mul, pk_sub, nI_clamp, nI_eq, nI_leI, nI_ltI, pu_nI_mI, pu_mI_nI, pu_mm, pu_nn, pu_nI_le_mI, pu_nI_lt_mI, pu_mI_lt, pu_mI_le, pu_inW, pu_inO, if_pos, if_neg, ↓reduceIte, pu_bnd3]
    refine ⟨O4, s4, ?_, q2, by rw [q3, h4]⟩
    rw [b0', pu_bnd, b3', pu_bnd, d12', pu_bnd, d8', pu_bnd, op, pu_bnd3, if_pos rfl, g7', pu_bnd, if_pos (show nI 1 = 1 from rfl), g2', pu_bnd, if_pos rfl, k12', pu_bnd, if_pos rfl, k8', pu_bnd, if_pos rfl, g6', pu_bnd]
    by_cases w : 0 < nk K2 6 x'
    · rw [if_pos (show 0 < nI (nk K2 6 x') from nI_lt (a := 0) (b := nk K2 6 x') w (by omega))]
      exact q1
    · have w2 : wlN K2 x' ≤ alN K2 c (nk K2 0 x') (nk K2 11 0) := o7.resolve_left w
      rw [if_neg (show ¬ 0 < nI (nk K2 6 x') from nI_nlt (a := 0) (b := nk K2 6 x') (by omega) (by omega)), g5', pu_bnd, g0', pu_bnd, k0', pu_bnd, lw, pu_bnd, if_neg (nI_nlt w2 (by omega))]
      exact q1
  · have ef : fstN l c x n = mI := by
      unfold fstN
      rw [if_neg (fun q => z q.1)]
    rw [ef, if_pos (show mI < 0 from by decide)]
    obtain ⟨O4, s4, q1, q2, q3⟩ := h_416 h hB hy hO hg
    exact ⟨O4, s4, q1, q2, q3⟩
theorem h_208 (h : Inv B n l K) (hB : 360 * B < 2 ^ 30 - 360) {s g c x : Nat} {O : XO} {y : Int64} (hy : ∀ O, f_L_looks O K = some y) (hO : OI B O s) (hg : g < n) (hc : c < 3) (hx : 0 < l c → x < n ∧ K 8 (c * 10) = nI x) : ∀ (k i F : Nat), i + k = n → k < F → ∃ (O2 : XO) (s2 : Nat), f_L_isAhead_l208 F O K (nI g) (nI c) y (nI 1) (fstN l c x i) (nI i) = some (nI 1, O2, K) ∧ OI B O2 s2 ∧ O2 1 = O 1 := by
  have hn := h.1.n10
  have c1 : f_X5_count O K 1 = some (nI n) := (e_count O h.1).2.1
  intro k
  induction k with
  | zero =>
    intro i F hi hF
    obtain ⟨F, rfl⟩ : ∃ q, F = q + 1 := ⟨F - 1, by omega⟩
    rw [Nat.add_zero] at hi
    subst hi
    exact h_208e h hB hy hO hg hc hx
  | succ k ih =>
    intro i F hi hF
    obtain ⟨F, rfl⟩ : ∃ q, F = q + 1 := ⟨F - 1, by omega⟩
    have hin : i < n := by omega
    obtain ⟨O2, s2, q1, q2, q3⟩ := ih (i + 1) F (by omega) (by omega)
    refine ⟨O2, s2, ?_, q2, q3⟩
    have g8 : f_X5_guest K (nI i) 8 = some (gx K i) := (e_guest h.1 hin).2.2.2.2.2.2.2.2.1
    have g9 : f_X5_guest K (nI i) 9 = some (px K i) := (e_guest h.1 hin).2.2.2.2.2.2.2.2.2.1
    have keep : x ≠ i ∨ ¬ 0 < l c → fstN l c x (i + 1) = fstN l c x i := by
      intro q
      unfold fstN
      by_cases z : 0 < l c ∧ x < i
      · rw [if_pos z, if_pos ⟨z.1, by omega⟩]
      · rw [if_neg z, if_neg (fun w => by
          rcases q with q | q
          · exact z ⟨w.1, by omega⟩
          · exact q w.1)]
    unfold f_L_isAhead_l208
    rw [c1, pu_bnd, if_neg (show ¬ nI n ≤ nI i from nI_ge hin (by omega)), g8, pu_bnd]
    have oth : (x ≠ i ∨ ¬ 0 < l c) → f_L_isAhead_b246 (f_L_isAhead_l208 F) O K (nI g) (nI c) y (nI 1) (fstN l c x i) (nI i) = some (nI 1, O2, K) := by
      intro q
      unfold f_L_isAhead_b246 f_L_isAhead_b248
      rw [pu_nm, pu_i1, nI_add, ← keep q]
      exact q1
    rcases (e_gate h.1.l hn hin).2.2 with ⟨w1, w2, w3⟩ | ⟨d, j, d1, d2, d3, d4, d5⟩
    · rw [w2, if_neg (fun w => nI_nm (by omega) w.symm)]
      refine oth ?_
      by_cases z : 0 < l c
      · left
        intro q
        subst q
        exact w1 c hc 0 z (hx z).2
      · exact Or.inr z
    · have ld := h.1.l.2.2.1 d d1
      rw [d4]
      by_cases z : d = c
      · subst z
        rw [if_pos rfl, g9, pu_bnd, d5]
        by_cases z2 : j = 0
        · subst z2
          have hx2 := (hx d2).2
          have exi : x = i := pu_eqE (by have := (hx d2).1; omega) (by omega) (hx2.symm.trans d3)
          subst exi
          rw [if_pos (show nI 0 = 0 from rfl)]
          unfold f_L_isAhead_b248
          rw [pu_nm, pu_i1, nI_add]
          have ef : fstN l d x (x + 1) = nI x := by
            unfold fstN
            rw [if_pos ⟨d2, by omega⟩]
          rw [ef] at q1
          exact q1
        · rw [if_neg (nz z2 (by omega))]
          refine oth (Or.inl ?_)
          intro q
          subst q
          have h00 := (hx (by omega)).2
          have u := h.1.l.2.2.2 d d1 j d2 d d1 0 (by omega) (d3.trans h00.symm)
          exact z2 u.2
      · rw [if_neg (fun w => z (pu_eqE (by omega) (by omega) w))]
        refine oth ?_
        by_cases z2 : 0 < l c
        · left
          intro q
          subst q
          have u := h.1.l.2.2.2 d d1 j d2 c hc 0 z2 (d3.trans (hx z2).2.symm)
          exact z u.1
        · exact Or.inr z2
theorem h_102 (h : Inv B n l K) (hB : 360 * B < 2 ^ 30 - 360) {s g c x b : Nat} {O : XO} {y : Int64} (hy : ∀ O, f_L_looks O K = some y) (hO : OI B O s) (hg : g < n) (hc : c < 3) (hx : 0 < l c → x < n ∧ K 8 (c * 10) = nI x) (hb : b < 3) (hbest : ∀ c, c < 3 → eN K g b ≤ eN K g c) : ∃ (O2 : XO) (s2 : Nat), f_L_isAhead_l102 fuelN O K (nI g) (nI c) y (nI (eN K g b)) (nI 1) (nI 0) = some (nI 1, O2, K) ∧ OI B O2 s2 ∧ O2 1 = O 1 := by
  have hn := h.1.n10
  have hB2 : 360 * B < 2 ^ 30 := by omega
  have st : ∀ F i : Nat, i < 3 → f_L_isAhead_l102 (F + 1) O K (nI g) (nI c) y (nI (eN K g b)) (nI 1) (nI i) = f_L_isAhead_l102 F O K (nI g) (nI c) y (nI (eN K g b)) (nI 1) (nI (i + 1)) := by
    intro F i hi
    obtain ⟨q0, q1, q2, q3⟩ := e_bringX h.1 hB2 hg hi
    have q0' : f_X5_ifOpened K (nI g) (nI i) 0 = some (nI (eN K g i)) := q0
    have q1' : f_X5_ifOpened K (nI g) (nI i) 1 = some (nI (fN K g i)) := q1
    have q2' : f_X5_ifOpened K (nI g) (nI i) 2 = some (nI (pN K g (fN K g i))) := q2
    have q3' : f_X5_ifOpened K (nI g) (nI i) 3 = some (nI (dbN K g i)) := q3
    obtain ⟨-, -, -, -, hf⟩ := e_bring h.1 hB2 hg hi
    obtain ⟨-, hpp⟩ := e_paid h.1 hB2 hg hf
    obtain ⟨-, hh, -⟩ := e_lend h.1 hB2 hg (q := fN K g i - nk K 1 g) (by omega)
    have hdb : nk K 2 g ≤ dbN K g i := by
      unfold dbN
      omega
    obtain ⟨-, he⟩ := e_ells h.1 hB2 hg hi
    obtain ⟨-, heb⟩ := e_ells h.1 hB2 hg hb
    obtain ⟨-, -, -, -, ⟨e3, b3⟩, -⟩ := h.1.t hB2
    obtain ⟨-, ⟨e1, b1⟩, ⟨e2, b2⟩, -⟩ := h.1.k hB2 hg
    have c18 : f_X5_count O K 18 = some (nI (nk K 10 3)) := by rw [← e3]; exact (e_count O h.1).2.2.2.2.2.2.2.2.2.2.2.2.2.2.1
    have g1 : f_X5_guest K (nI g) 1 = some (nI (nk K 1 g)) := by rw [← e1]; exact (e_guest h.1 hg).2.1
    have g2 : f_X5_guest K (nI g) 2 = some (nI (nk K 2 g)) := by rw [← e2]; exact (e_guest h.1 hg).2.2.1
    have hbi := hbest i hi
    have hdb2 : dbN K g i ≤ nk K 2 g + 360 := by
      unfold dbN
      omega
    rw [show f_L_isAhead_l102 (F + 1) O K (nI g) (nI c) y (nI (eN K g b)) (nI 1) (nI i) = _ from by unfold f_L_isAhead_l102; rfl]
    rw [if_neg (show ¬ 3 ≤ nI i from nI_ge (a := i) (b := 3) (by omega) (by omega)), q0', pu_bnd, if_neg (show ¬ nI 1 = 0 from by decide), if_neg (nI_nlt hbi (by omega)), if_neg (show ¬ nI (eN K g i) < 0 from nI_pos (by omega)), q1', pu_bnd, c18, pu_bnd, pk_mul, if_pos (show nI (fN K g i) = nI (nk K 10 3 * eN K g i) from by unfold fN; rw [Nat.mul_comm]), q2', pu_bnd, g1, pu_bnd, if_neg (nI_nlt hpp (by omega)), q3', pu_bnd, g2, pu_bnd, if_neg (nI_nlt hdb (by omega))]
    unfold f_L_isAhead_b194
    rw [pu_nm, pu_i1, nI_add]
  have en : ∀ F : Nat, f_L_isAhead_l102 (F + 1) O K (nI g) (nI c) y (nI (eN K g b)) (nI 1) (nI 3) = f_L_isAhead_l208 fuelN O K (nI g) (nI c) y (nI 1) mI (nI 0) := by
    intro F
    rw [show f_L_isAhead_l102 (F + 1) O K (nI g) (nI c) y (nI (eN K g b)) (nI 1) (nI 3) = _ from by unfold f_L_isAhead_l102; rfl]
    rw [if_pos (show 3 ≤ nI 3 from Int32.le_refl _)]
    rfl
  have u := (st 999 0 (by omega)).trans ((st 998 1 (by omega)).trans ((st 997 2 (by omega)).trans (en 996)))
  obtain ⟨O2, s2, q1, q2, q3⟩ := h_208 h hB hy hO hg hc hx n 0 fuelN (by omega) (by unfold fuelN; omega)
  have ef : fstN l c x 0 = mI := by
    unfold fstN
    rw [if_neg (fun q => absurd q.2 (Nat.not_lt_zero _))]
  rw [ef] at q1
  exact ⟨O2, s2, u.trans q1, q2, q3⟩
theorem p_ahead (h : Inv B n l K) (hB : 360 * B < 2 ^ 30 - 360) {s g c : Nat} {O : XO} (hO : OI B O s) (hg : g < n) (hc : c < 3) : ∃ (O2 : XO) (s2 : Nat), f_L_isAhead O K (nI g) (nI c) = some (nI 1, O2, K) ∧ OI B O2 s2 ∧ O2 1 = O 1 := by
  have hn := h.1.n10
  have hB2 : 360 * B < 2 ^ 30 := by omega
  obtain ⟨y, hy⟩ := e_looks h.1
  obtain ⟨b, b1, b2, b3⟩ := e_bestX h.1 hB2 hg
  obtain ⟨x, hx⟩ : ∃ x : Nat, 0 < l c → x < n ∧ K 8 (c * 10) = nI x := by
    by_cases z : 0 < l c
    · obtain ⟨x, x1, x2⟩ := h.1.l.2.1 c hc 0 z
      exact ⟨x, fun _ => ⟨x1, x2⟩⟩
    · exact ⟨0, fun q => absurd q z⟩
  obtain ⟨O2, s2, q1, q2, q3⟩ := h_102 h hB hy hO hg hc hx b1 b3
  refine ⟨O2, s2, ?_, q2, q3⟩
  obtain ⟨q0, -⟩ := e_bringX h.1 hB2 hg b1
  have q0' : f_X5_ifOpened K (nI g) (nI b) 0 = some (nI (eN K g b)) := q0
  obtain ⟨r, r1, r2, -⟩ := e_freeX h.1 hB2 hg hc
  obtain ⟨r0, t1, -, t3⟩ := e_freeX h.1 hB2 hg (show 0 < 3 by omega)
  have t1' : f_X5_freeIn K (nI g) 0 = some r0 := t1
  obtain ⟨⟨e0, w0⟩, -⟩ := h.1.k hB2 hg
  obtain ⟨⟨et, wt⟩, -⟩ := h.1.t hB2
  have g0 : f_X5_guest K (nI g) 0 = some (nI (nk K 0 g)) := by rw [← e0]; exact (e_guest h.1 hg).1
  have g5 : f_X5_guest K (nI g) 5 = some (nI (wlN K g)) := (e_guest h.1 hg).2.2.2.2.2.1
  have c0 : f_X5_count O K 0 = some (nI (nk K 11 0)) := by rw [← et]; exact (e_count O h.1).1
  have lw := e_law h.1 hB2 hc w0 (show nk K 11 0 < 2 ^ 31 by omega)
  obtain ⟨-, wa⟩ := e_allowed h.1 hB2 hc w0 (show nk K 11 0 < 2 ^ 31 by omega)
  obtain ⟨-, ww, -⟩ := e_wl h.1 hg
  have fin : f_L_isAhead_b92 O K (nI g) (nI c) y (nI (eN K g b)) = some (nI 1, O2, K) := q1
  have b70 : ∀ v : Int32, f_L_isAhead_b70 O K (nI g) (nI c) y (nI (eN K g b)) v v = some (nI 1, O2, K) := by
    intro v
    unfold f_L_isAhead_b70
    rw [if_pos rfl, t1', pu_bnd]
    rcases t3 rfl with z | z
    · rw [if_pos (show r0 = 0 from z)]
      exact fin
    · rw [if_neg (show ¬ r0 = 0 from by rw [z]; decide), pu_bnd, if_pos (show r0 = -1 from z)]
      exact fin
  unfold f_L_isAhead
  rw [hy O, pu_bnd, b2, pu_bnd, q0', pu_bnd, r1, pu_bnd, g0, pu_bnd, c0, pu_bnd, lw, pu_bnd]
  by_cases z : wlN K g ≤ alN K c (nk K 0 g) (nk K 11 0)
  · rw [if_pos (show r = 0 from r2.mpr z)]
    unfold f_L_isAhead_b54
    rw [g5, pu_bnd, if_neg (nI_nlt z (by omega))]
    exact b70 1
  · rw [if_neg (show ¬ r = 0 from fun w => z (r2.mp w))]
    unfold f_L_isAhead_b54
    rw [g5, pu_bnd, if_pos (nI_lt (by omega) (by omega))]
    exact b70 0
end AH
