/-! the pure part of p33: what the class answers, in plain numbers -/
theorem pu_ndb {a : Nat} (h : 0 < a) (h2 : a < 2 ^ 31) : ndb (nI a) = true := by
  unfold ndb
  rw [decide_eq_true_iff]
  intro e
  have := pu_eqE h2 (by omega) (show nI a = nI 0 from e)
  omega
theorem pu_upb {a : Nat} (h : 0 < a) (h2 : a < 2 ^ 31) : upb (nI a) = true := by
  unfold upb
  rw [decide_eq_true_iff]
  intro e
  have := pu_eqE h2 (by omega) (show nI a = nI 0 from e)
  omega
theorem pu_bnd3 {α β γ δ : Type} (a : α) (b : β) (c : γ) (f : α → β → γ → Option δ) : bnd3 (some (a, b, c)) f = f a b c := Eq.trans rfl rfl
theorem pu_ndg {K : RK} {n g : Nat} (e : K 12 0 = nI n) (hg : g < n) (hn : n < 2 ^ 31) : ndg K (nI g) = true := by
  unfold ndg
  rw [e]
  simp only [Bool.and_eq_true, Bool.not_eq_true', decide_eq_false_iff_not, decide_eq_true_eq]
  exact ⟨nI_pos (by omega), nI_lt hg hn⟩
theorem up_n (v : Int32) {m : Nat} (h : 0 < m) (h2 : m < 2 ^ 31) : ∃ j : Nat, j < m ∧ up_ v (nI m) = nI j := by
  have e : v &&& 2147483647 = nI (v.toBitVec.toNat % 2 ^ 31) := pk_and v 31 (by decide)
  refine ⟨v.toBitVec.toNat % 2 ^ 31 % m, Nat.mod_lt _ h, ?_⟩
  unfold up_
  rw [e]
  exact pk_rem (Nat.mod_lt _ (by decide)) h h2
/-- a cell as a number -/
def nk (K : RK) (r g : Nat) : Nat := (K r g).toNatClampNeg
theorem nk_of {K : RK} {r g m : Nat} (h : rg (K r g) m) (hm : m < 2 ^ 31) : K r g = nI (nk K r g) ∧ nk K r g ≤ m := by
  obtain ⟨v, h1, h2⟩ := h
  unfold nk
  rw [h2, nI_clamp (by omega)]
  exact ⟨rfl, h1⟩
def sI (f : Nat → Int32) : Nat → Int32
  | 0 => 0
  | k + 1 => sI f k + f k
def mS (K : RK) : Nat → Int32
  | 0 => 0
  | k + 1 => mS K k + (if K 6 k ≤ 0 then nI 0 else nI 1)
def bS (K : RK) : Nat → Int32
  | 0 => 0
  | k + 1 => bS K k ||| (K 7 k <<< (nI k &&& 31))
/-- the invariants: those of one state, its sums, who stands in a line is not inside -/
def IvT (n : Nat) (K : RK) : Prop := K 11 3 = sI (K 1) n + K 11 1 ∧ K 11 4 = sI (K 3) n + K 11 2 ∧ K 11 2 = K 11 6
def IvI (n : Nat) (l : Nat → Nat) (K : RK) : Prop := ∀ c : Nat, c < 3 → ∀ k : Nat, k < l c → ∀ x : Nat, x < n → K 8 (c * 10 + k) = nI x → K 7 x = nI 0
def Ra (B n : Nat) (l : Nat → Nat) (K : RK) : Prop := IvS B n K ∧ IvG B n K ∧ IvC n K ∧ IvL n l K
def Inv (B n : Nat) (l : Nat → Nat) (K : RK) : Prop := Ra B n l K ∧ IvT n K ∧ IvI n l K
theorem Ra.s {B n : Nat} {l : Nat → Nat} {K : RK} (h : Ra B n l K) : IvS B n K := h.1
theorem Ra.g {B n : Nat} {l : Nat → Nat} {K : RK} (h : Ra B n l K) : IvG B n K := h.2.1
theorem Ra.c {B n : Nat} {l : Nat → Nat} {K : RK} (h : Ra B n l K) : IvC n K := h.2.2.1
theorem Ra.l {B n : Nat} {l : Nat → Nat} {K : RK} (h : Ra B n l K) : IvL n l K := h.2.2.2
theorem Ra.of {B n : Nat} {l : Nat → Nat} {K : RK} {w : Nat → Int32} (h : Rel B n l K w) : Ra B n l K := ⟨h.1, h.2.1, h.2.2.1, h.2.2.2.1⟩
/-- a window that agrees with it -/
def cwW (K : RK) (l : Nat → Nat) : Nat → Int32 := fun j => if j < 16 then (if j = 0 then K 11 0 else if j = 1 then K 12 0 else if j < 10 then K 11 (j - 1) else K 10 (j - 10)) else if j < 86 then (if (j - 16) % 7 = 4 then wc K ((j - 16) / 7) else if (j - 16) % 7 = 5 then K 6 ((j - 16) / 7) else if (j - 16) % 7 = 6 then K 7 ((j - 16) / 7) else K ((j - 16) % 7) ((j - 16) / 7)) else (if (j - 86) % 11 = 0 then nI (l ((j - 86) / 11)) else K 8 ((j - 86) / 11 * 10 + ((j - 86) % 11 - 1)))
theorem Ra.rel {B n : Nat} {l : Nat → Nat} {K : RK} (h : Ra B n l K) : ∃ w : Nat → Int32, Rel B n l K w := by
  obtain ⟨hS, hG, hC, hL⟩ := h
  have hn := hS.1
  have gr : ∀ g q : Nat, g < 10 → q < 7 → cwW K l (16 + 7 * g + q) = if q = 4 then wc K g else if q = 5 then K 6 g else if q = 6 then K 7 g else K q g := by
    intro g q hg hq
    unfold cwW
    rw [if_neg (by omega), if_pos (by omega), show (16 + 7 * g + q - 16) % 7 = q from by omega, show (16 + 7 * g + q - 16) / 7 = g from by omega]
  refine ⟨cwW K l, hS, hG, hC, hL, ⟨rfl, rfl, rfl, rfl, rfl, rfl, rfl, rfl, rfl, rfl, rfl, rfl, rfl, rfl, rfl, rfl⟩, ?_, ?_⟩
  · intro g hg
    rw [gr g 0 (by omega) (by omega), gr g 1 (by omega) (by omega), gr g 2 (by omega) (by omega), gr g 3 (by omega) (by omega), gr g 4 (by omega) (by omega), gr g 5 (by omega) (by omega), gr g 6 (by omega) (by omega)]
    exact ⟨rfl, rfl, rfl, rfl, rfl, rfl, rfl⟩
  · intro c hc
    have lc := hL.2.2.1 c hc
    refine ⟨?_, fun k hk => ?_⟩
    · unfold cwW
      rw [if_neg (by omega), if_neg (by omega), if_pos (by omega), show (86 + 11 * c - 86) / 11 = c from by omega]
    · unfold cwW
      rw [if_neg (by omega), if_neg (by omega), if_neg (by omega), show (86 + 11 * c + 1 + k - 86) / 11 = c from by omega, show (86 + 11 * c + 1 + k - 86) % 11 - 1 = k from by omega]
theorem Ra.n10 {B n : Nat} {l : Nat → Nat} {K : RK} (h : Ra B n l K) : n ≤ 10 := h.s.1
theorem Ra.e12 {B n : Nat} {l : Nat → Nat} {K : RK} (h : Ra B n l K) : K 12 0 = nI n := h.s.2.1
/-- all the numbers of a guest -/
theorem Ra.k {B n : Nat} {l : Nat → Nat} {K : RK} (h : Ra B n l K) (hB : 360 * B < 2 ^ 30) {g : Nat} (hg : g < n) : (K 0 g = nI (nk K 0 g) ∧ nk K 0 g ≤ 4) ∧ (K 1 g = nI (nk K 1 g) ∧ nk K 1 g ≤ 999) ∧ (K 2 g = nI (nk K 2 g) ∧ nk K 2 g ≤ 360 * B) ∧ (K 3 g = nI (nk K 3 g) ∧ nk K 3 g ≤ 40) ∧ (K 6 g = nI (nk K 6 g) ∧ nk K 6 g ≤ 9) ∧ (K 7 g = nI (nk K 7 g) ∧ nk K 7 g ≤ 1) := by
  obtain ⟨h0, h1, h2, h3, h6, h7⟩ := h.g g hg
  exact ⟨nk_of h0 (by omega), nk_of h1 (by omega), nk_of h2 (by omega), nk_of h3 (by omega), nk_of h6 (by omega), nk_of h7 (by omega)⟩
theorem Ra.t {B n : Nat} {l : Nat → Nat} {K : RK} (h : Ra B n l K) (hB : 360 * B < 2 ^ 30) : (K 11 0 = nI (nk K 11 0) ∧ nk K 11 0 ≤ B) ∧ (K 10 0 = nI (nk K 10 0) ∧ nk K 10 0 ≤ 20) ∧ (K 10 1 = nI (nk K 10 1) ∧ nk K 10 1 ≤ 10) ∧ (K 10 2 = nI (nk K 10 2) ∧ nk K 10 2 ≤ 9) ∧ (K 10 3 = nI (nk K 10 3) ∧ nk K 10 3 ≤ 9) ∧ (K 10 4 = nI (nk K 10 4) ∧ nk K 10 4 ≤ 9) ∧ (K 10 5 = nI (nk K 10 5) ∧ nk K 10 5 ≤ 99) := by
  obtain ⟨_, _, h0, h1, h2, h3, h4, h5, h6⟩ := h.s
  exact ⟨nk_of h0 (by omega), nk_of h1 (by omega), nk_of h2 (by omega), nk_of h3 (by omega), nk_of h4 (by omega), nk_of h5 (by omega), nk_of h6 (by omega)⟩
/-! sums -/
theorem e_sum_l {f : Nat → Int32} {n : Nat} (hn : n ≤ 10) : ∀ (k i F : Nat), i + k = n → k < F → f_X5_sumOf_l4 10 f F (nI n) (sI f i) (nI i) = some (sI f n) := by
  intro k
  induction k with
  | zero =>
    intro i F hi hF
    obtain ⟨F, rfl⟩ : ∃ q, F = q + 1 := ⟨F - 1, by omega⟩
    rw [Nat.add_zero] at hi
    subst hi
    unfold f_X5_sumOf_l4
    simp (disch := omega) only [↓pu_m1, pu_i0, pu_i1, pu_i2, pu_i3, pu_i4, pu_i5, pu_i6, pu_i7, pu_i8, pu_i9, pu_i10, pu_i11, pu_i12, pu_i13, pu_i14, pu_i15, pu_i16, pu_i17, pu_i18, pu_i19, pu_i20, pu_i21, pu_i22, pu_i23, pu_i30, pu_i33, pu_i34, pu_i35, pu_i36, pu_i40, pu_i41, pu_i42, pu_i45, pu_i46, pu_i48, pu_i49, pu_i50, pu_i57, pu_i59, pu_i60, pu_i62, pu_i66, pu_i86, pu_i94, pu_i99, pu_i100, pu_i103, pu_i106, pu_i108, pu_i109, pu_i111, pu_i113, pu_i119, pu_i126, pu_i999, pu_bnd, pu_nm, pu_gd, pu_bnd2, pu_inb, pu_at, pu_put, pu_us, pu_un, pu_Rs, pu_Rn, pu_upS, pu_RR, nI_add, pk_mul, pk_sub, nI_clamp, nI_eq, nI_leI, nI_ltI, pu_nI_mI, pu_mI_nI, pu_mm, pu_nn, pu_nI_le_mI, pu_nI_lt_mI, pu_mI_lt, pu_mI_le, pu_inW, pu_inO, if_pos, if_neg, ↓reduceIte, pu_bnd3]
  | succ k ih =>
    intro i F hi hF
    obtain ⟨F, rfl⟩ : ∃ q, F = q + 1 := ⟨F - 1, by omega⟩
    have q := ih (i + 1) F (by omega) (by omega)
    unfold f_X5_sumOf_l4
    simp (disch := omega) only [↓pu_m1, pu_i0, pu_i1, pu_i2, pu_i3, pu_i4, pu_i5, pu_i6, pu_i7, pu_i8, pu_i9, pu_i10, pu_i11, pu_i12, pu_i13, pu_i14, pu_i15, pu_i16, pu_i17, pu_i18, pu_i19, pu_i20, pu_i21, pu_i22, pu_i23, pu_i30, pu_i33, pu_i34, pu_i35, pu_i36, pu_i40, pu_i41, pu_i42, pu_i45, pu_i46, pu_i48, pu_i49, pu_i50, pu_i57, pu_i59, pu_i60, pu_i62, pu_i66, pu_i86, pu_i94, pu_i99, pu_i100, pu_i103, pu_i106, pu_i108, pu_i109, pu_i111, pu_i113, pu_i119, pu_i126, pu_i999, pu_bnd, pu_nm, pu_gd, pu_bnd2, pu_inb, pu_at, pu_put, pu_us, pu_un, pu_Rs, pu_Rn, pu_upS, pu_RR, nI_add, pk_mul, pk_sub, nI_clamp, nI_eq, nI_leI, nI_ltI, pu_nI_mI, pu_mI_nI, pu_mm, pu_nn, pu_nI_le_mI, pu_nI_lt_mI, pu_mI_lt, pu_mI_le, pu_inW, pu_inO, if_pos, if_neg, ↓reduceIte, pu_bnd3]
    exact q
theorem e_sum {f : Nat → Int32} {n : Nat} (hn : n ≤ 10) : f_X5_sumOf 10 f (nI n) = some (sI f n) := e_sum_l hn n 0 fuelN (by omega) (by unfold fuelN; omega)
theorem e_msk_l {K : RK} {n : Nat} (hn : n ≤ 10) (e12 : K 12 0 = nI n) : ∀ (k i F : Nat), i + k = n → k < F → f_X1_howManyMasked_l4 K F (mS K i) (nI i) = some (mS K n) := by
  intro k
  induction k with
  | zero =>
    intro i F hi hF
    obtain ⟨F, rfl⟩ : ∃ q, F = q + 1 := ⟨F - 1, by omega⟩
    rw [Nat.add_zero] at hi
    subst hi
    unfold f_X1_howManyMasked_l4
    simp (disch := omega) only [e12, ↓pu_m1, pu_i0, pu_i1, pu_i2, pu_i3, pu_i4, pu_i5, pu_i6, pu_i7, pu_i8, pu_i9, pu_i10, pu_i11, pu_i12, pu_i13, pu_i14, pu_i15, pu_i16, pu_i17, pu_i18, pu_i19, pu_i20, pu_i21, pu_i22, pu_i23, pu_i30, pu_i33, pu_i34, pu_i35, pu_i36, pu_i40, pu_i41, pu_i42, pu_i45, pu_i46, pu_i48, pu_i49, pu_i50, pu_i57, pu_i59, pu_i60, pu_i62, pu_i66, pu_i86, pu_i94, pu_i99, pu_i100, pu_i103, pu_i106, pu_i108, pu_i109, pu_i111, pu_i113, pu_i119, pu_i126, pu_i999, pu_bnd, pu_nm, pu_gd, pu_bnd2, pu_inb, pu_at, pu_put, pu_us, pu_un, pu_Rs, pu_Rn, pu_upS, pu_RR, nI_add, pk_mul, pk_sub, nI_clamp, nI_eq, nI_leI, nI_ltI, pu_nI_mI, pu_mI_nI, pu_mm, pu_nn, pu_nI_le_mI, pu_nI_lt_mI, pu_mI_lt, pu_mI_le, pu_inW, pu_inO, if_pos, if_neg, ↓reduceIte, pu_bnd3]
  | succ k ih =>
    intro i F hi hF
    obtain ⟨F, rfl⟩ : ∃ q, F = q + 1 := ⟨F - 1, by omega⟩
    have q := ih (i + 1) F (by omega) (by omega)
    rw [mS] at q
    unfold f_X1_howManyMasked_l4
    by_cases c : K 6 i ≤ 0
    · rw [if_pos c] at q
      have c' : K 6 i ≤ nI 0 := c
      simp (disch := omega) only [e12, c', f_X1_howManyMasked_b29, ↓pu_m1, pu_i0, pu_i1, pu_i2, pu_i3, pu_i4, pu_i5, pu_i6, pu_i7, pu_i8, pu_i9, pu_i10, pu_i11, pu_i12, pu_i13, pu_i14, pu_i15, pu_i16, pu_i17, pu_i18, pu_i19, pu_i20, pu_i21, pu_i22, pu_i23, pu_i30, pu_i33, pu_i34, pu_i35, pu_i36, pu_i40, pu_i41, pu_i42, pu_i45, pu_i46, pu_i48, pu_i49, pu_i50, pu_i57, pu_i59, pu_i60, pu_i62, pu_i66, pu_i86, pu_i94, pu_i99, pu_i100, pu_i103, pu_i106, pu_i108, pu_i109, pu_i111, pu_i113, pu_i119, pu_i126, pu_i999, pu_bnd, pu_nm, pu_gd, pu_bnd2, pu_inb, pu_at, pu_put, pu_us, pu_un, pu_Rs, pu_Rn, pu_upS, pu_RR, nI_add, pk_mul, pk_sub, nI_clamp, nI_eq, nI_leI, nI_ltI, pu_nI_mI, pu_mI_nI, pu_mm, pu_nn, pu_nI_le_mI, pu_nI_lt_mI, pu_mI_lt, pu_mI_le, pu_inW, pu_inO, if_pos, if_neg, ↓reduceIte, pu_bnd3]
      exact q
    · rw [if_neg c] at q
      have c' : ¬ K 6 i ≤ nI 0 := c
      simp (disch := omega) only [e12, c', f_X1_howManyMasked_b29, ↓pu_m1, pu_i0, pu_i1, pu_i2, pu_i3, pu_i4, pu_i5, pu_i6, pu_i7, pu_i8, pu_i9, pu_i10, pu_i11, pu_i12, pu_i13, pu_i14, pu_i15, pu_i16, pu_i17, pu_i18, pu_i19, pu_i20, pu_i21, pu_i22, pu_i23, pu_i30, pu_i33, pu_i34, pu_i35, pu_i36, pu_i40, pu_i41, pu_i42, pu_i45, pu_i46, pu_i48, pu_i49, pu_i50, pu_i57, pu_i59, pu_i60, pu_i62, pu_i66, pu_i86, pu_i94, pu_i99, pu_i100, pu_i103, pu_i106, pu_i108, pu_i109, pu_i111, pu_i113, pu_i119, pu_i126, pu_i999, pu_bnd, pu_nm, pu_gd, pu_bnd2, pu_inb, pu_at, pu_put, pu_us, pu_un, pu_Rs, pu_Rn, pu_upS, pu_RR, nI_add, pk_mul, pk_sub, nI_clamp, nI_eq, nI_leI, nI_ltI, pu_nI_mI, pu_mI_nI, pu_mm, pu_nn, pu_nI_le_mI, pu_nI_lt_mI, pu_mI_lt, pu_mI_le, pu_inW, pu_inO, if_pos, if_neg, ↓reduceIte, pu_bnd3]
      exact q
theorem e_msk {K : RK} {n : Nat} (hn : n ≤ 10) (e12 : K 12 0 = nI n) : f_X1_howManyMasked K = some (mS K n) := e_msk_l hn e12 n 0 fuelN (by omega) (by unfold fuelN; omega)
theorem e_bit_l {K : RK} {n : Nat} (hn : n ≤ 10) (e12 : K 12 0 = nI n) (h7 : ∀ g, g < n → rg (K 7 g) 1) : ∀ (k i F : Nat), i + k = n → k < F → f_X1_bitsOfInside_l4 K F (bS K i) (nI i) = some (bS K n) := by
  intro k
  induction k with
  | zero =>
    intro i F hi hF
    obtain ⟨F, rfl⟩ : ∃ q, F = q + 1 := ⟨F - 1, by omega⟩
    rw [Nat.add_zero] at hi
    subst hi
    unfold f_X1_bitsOfInside_l4
    simp (disch := omega) only [e12, ↓pu_m1, pu_i0, pu_i1, pu_i2, pu_i3, pu_i4, pu_i5, pu_i6, pu_i7, pu_i8, pu_i9, pu_i10, pu_i11, pu_i12, pu_i13, pu_i14, pu_i15, pu_i16, pu_i17, pu_i18, pu_i19, pu_i20, pu_i21, pu_i22, pu_i23, pu_i30, pu_i33, pu_i34, pu_i35, pu_i36, pu_i40, pu_i41, pu_i42, pu_i45, pu_i46, pu_i48, pu_i49, pu_i50, pu_i57, pu_i59, pu_i60, pu_i62, pu_i66, pu_i86, pu_i94, pu_i99, pu_i100, pu_i103, pu_i106, pu_i108, pu_i109, pu_i111, pu_i113, pu_i119, pu_i126, pu_i999, pu_bnd, pu_nm, pu_gd, pu_bnd2, pu_inb, pu_at, pu_put, pu_us, pu_un, pu_Rs, pu_Rn, pu_upS, pu_RR, nI_add, pk_mul, pk_sub, nI_clamp, nI_eq, nI_leI, nI_ltI, pu_nI_mI, pu_mI_nI, pu_mm, pu_nn, pu_nI_le_mI, pu_nI_lt_mI, pu_mI_lt, pu_mI_le, pu_inW, pu_inO, if_pos, if_neg, ↓reduceIte, pu_bnd3]
  | succ k ih =>
    intro i F hi hF
    obtain ⟨F, rfl⟩ : ∃ q, F = q + 1 := ⟨F - 1, by omega⟩
    have q := ih (i + 1) F (by omega) (by omega)
    obtain ⟨v, hv, ev⟩ := h7 i (by omega)
    rw [bS, ev] at q
    unfold f_X1_bitsOfInside_l4
    have ti := t_isIn (K := K) (g := i) (by omega) hv ev
    rcases (show v = 0 ∨ v = 1 by omega) with z | z <;> subst z
    · rw [t_shl0 i (by omega)] at q
      simp (disch := omega) only [e12, ti, f_X1_bitsOfInside_b28, ↓pu_m1, pu_i0, pu_i1, pu_i2, pu_i3, pu_i4, pu_i5, pu_i6, pu_i7, pu_i8, pu_i9, pu_i10, pu_i11, pu_i12, pu_i13, pu_i14, pu_i15, pu_i16, pu_i17, pu_i18, pu_i19, pu_i20, pu_i21, pu_i22, pu_i23, pu_i30, pu_i33, pu_i34, pu_i35, pu_i36, pu_i40, pu_i41, pu_i42, pu_i45, pu_i46, pu_i48, pu_i49, pu_i50, pu_i57, pu_i59, pu_i60, pu_i62, pu_i66, pu_i86, pu_i94, pu_i99, pu_i100, pu_i103, pu_i106, pu_i108, pu_i109, pu_i111, pu_i113, pu_i119, pu_i126, pu_i999, pu_bnd, pu_nm, pu_gd, pu_bnd2, pu_inb, pu_at, pu_put, pu_us, pu_un, pu_Rs, pu_Rn, pu_upS, pu_RR, nI_add, pk_mul, pk_sub, nI_clamp, nI_eq, nI_leI, nI_ltI, pu_nI_mI, pu_mI_nI, pu_mm, pu_nn, pu_nI_le_mI, pu_nI_lt_mI, pu_mI_lt, pu_mI_le, pu_inW, pu_inO, if_pos, if_neg, ↓reduceIte, pu_bnd3]
      exact q
    · simp (disch := omega) only [e12, ti, f_X1_bitsOfInside_b28, ↓pu_m1, pu_i0, pu_i1, pu_i2, pu_i3, pu_i4, pu_i5, pu_i6, pu_i7, pu_i8, pu_i9, pu_i10, pu_i11, pu_i12, pu_i13, pu_i14, pu_i15, pu_i16, pu_i17, pu_i18, pu_i19, pu_i20, pu_i21, pu_i22, pu_i23, pu_i30, pu_i33, pu_i34, pu_i35, pu_i36, pu_i40, pu_i41, pu_i42, pu_i45, pu_i46, pu_i48, pu_i49, pu_i50, pu_i57, pu_i59, pu_i60, pu_i62, pu_i66, pu_i86, pu_i94, pu_i99, pu_i100, pu_i103, pu_i106, pu_i108, pu_i109, pu_i111, pu_i113, pu_i119, pu_i126, pu_i999, pu_bnd, pu_nm, pu_gd, pu_bnd2, pu_inb, pu_at, pu_put, pu_us, pu_un, pu_Rs, pu_Rn, pu_upS, pu_RR, nI_add, pk_mul, pk_sub, nI_clamp, nI_eq, nI_leI, nI_ltI, pu_nI_mI, pu_mI_nI, pu_mm, pu_nn, pu_nI_le_mI, pu_nI_lt_mI, pu_mI_lt, pu_mI_le, pu_inW, pu_inO, if_pos, if_neg, ↓reduceIte, pu_bnd3]
      exact q
theorem e_bit {K : RK} {n : Nat} (hn : n ≤ 10) (e12 : K 12 0 = nI n) (h7 : ∀ g, g < n → rg (K 7 g) 1) : f_X1_bitsOfInside K = some (bS K n) := e_bit_l hn e12 h7 n 0 fuelN (by omega) (by unfold fuelN; omega)
theorem sI_congr {f h : Nat → Int32} : ∀ n : Nat, (∀ i, i < n → f i = h i) → sI f n = sI h n := by
  intro n
  induction n with
  | zero => intro _; rfl
  | succ n ih =>
    intro e
    rw [sI, sI, ih (fun i hi => e i (by omega)), e n (by omega)]
theorem sI_upd {f : Nat → Int32} {g : Nat} {v : Int32} : ∀ n : Nat, g < n → sI (upd f g v) n = sI f n + (v - f g) := by
  intro n
  induction n with
  | zero => intro h; omega
  | succ n ih =>
    intro h
    rw [sI, sI]
    by_cases e : g = n
    · subst e
      rw [sI_congr (h := f) g (fun i hi => pu_un (by omega)), pu_us rfl]
      grind
    · rw [ih (by omega), pu_un (by omega)]
      grind
theorem sI_push {f : Nat → Int32} {n : Nat} {v : Int32} : sI (upd f n v) (n + 1) = sI f n + v := by
  rw [sI, sI_congr (h := f) n (fun i hi => pu_un (by omega)), pu_us rfl]
