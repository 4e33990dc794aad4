/-! the pure part of p33: what is saved, and brought back -/
theorem upOS_8 {O : XO} {r i : Nat} {v : Int32} (q j : Nat) : upOS O r i v 8 q j = if q = r ∧ j = i then v else O 8 q j := by
  unfold upOS upO
  rw [if_pos rfl]
  by_cases z : q = r
  · subst z
    rw [pu_Rs]
    by_cases z2 : j = i
    · rw [pu_us z2, if_pos ⟨rfl, z2⟩]
    · rw [pu_un z2, if_neg (by omega)]
  · rw [pu_Rn z, if_neg (by omega)]
theorem upOS_n {O : XO} {r i : Nat} {v : Int32} (q : Nat) (h : q ≠ 8) : upOS O r i v q = O q := by
  unfold upOS upO
  rw [if_neg h]
/-- the ring's numbers: s are saved; the snapshot is there, and good -/
def OW (O : XO) (a s : Nat) : Prop := a < 6 ∧ s ≤ 6 ∧ O 8 0 1 = nI a ∧ O 8 0 2 = nI s
def SI (B : Nat) (K : RK) : Prop := ∃ (n : Nat) (l : Nat → Nat), Inv B n l K
def OI (B : Nat) (O : XO) (s : Nat) : Prop := (∃ a : Nat, OW O a s) ∧ O 8 0 0 = nI 1 ∧ SI B (O 1)
/-- what was saved last -/
def LSt (O : XO) (s : Nat) (K : RK) : Prop := ∃ a : Nat, OW O a s ∧ 0 < s ∧ O (2 + (a + (s - 1)) % 6) = K
theorem p_save {B s : Nat} {O : XO} (h : OI B O s) (K : RK) : ∃ O2 : XO, f_X2_save O K = some O2 ∧ OI B O2 (min (s + 1) 6) ∧ LSt O2 (min (s + 1) 6) K ∧ O2 1 = O 1 := by
  obtain ⟨⟨a, ha, hs, e1, e2⟩, e0, hS⟩ := h
  have key : ∀ (O1 : XO) (a' s' : Nat), a' < 6 → s' < 6 → O1 8 0 1 = nI a' → O1 8 0 2 = nI s' → O1 8 0 0 = nI 1 → O1 1 = O 1 → f_X2_save O K = f_X2_save_b32 K O1 → ∃ O2 : XO, f_X2_save O K = some O2 ∧ OI B O2 (s' + 1) ∧ LSt O2 (s' + 1) K ∧ O2 1 = O 1 := by
    intro O1 a' s' ha' hs' g1 g2 g0 gS hcl
    have hix : st_ix O1 (nI s') = nI ((a' + s') % 6) := by
      unfold st_ix
      rw [g1, nI_add, pu_i6]
      exact pk_rem (a := a' + s') (d := 6) (by omega) (by omega) (by omega)
    have x8 : ∀ (q i : Nat), (upOS (upB O1 ((a' + s') % 6 + 2) K) 0 2 (nI (s' + 1))) 8 q i = if q = 0 ∧ i = 2 then nI (s' + 1) else O1 8 q i := by
      intro q i
      rw [upOS_8]
      unfold upB
      rw [if_neg (show ¬ 8 = (a' + s') % 6 + 2 by omega)]
    have x7 : ∀ q : Nat, q < 8 → (upOS (upB O1 ((a' + s') % 6 + 2) K) 0 2 (nI (s' + 1))) q = if q = (a' + s') % 6 + 2 then K else O1 q := by
      intro q hq
      rw [upOS_n q (by omega)]
      rfl
    have w : OW (upOS (upB O1 ((a' + s') % 6 + 2) K) 0 2 (nI (s' + 1))) a' (s' + 1) := by
      refine ⟨ha', by omega, ?_, ?_⟩
      · rw [x8, if_neg (by omega)]
        exact g1
      · rw [x8, if_pos ⟨rfl, rfl⟩]
    refine ⟨upOS (upB O1 ((a' + s') % 6 + 2) K) 0 2 (nI (s' + 1)), ?_, ⟨⟨a', w⟩, ?_, ?_⟩, ⟨a', w, by omega, ?_⟩, ?_⟩
    · rw [hcl]
      unfold f_X2_save_b32
      have g2' : upB O1 ((a' + s') % 6 + 2) K 8 0 2 = nI s' := by
        unfold upB
        rw [if_neg (by omega)]
        exact g2
      simp (disch := omega) only [g2, hix, g2', ↓pu_m1, pu_i0, pu_i1, pu_i2, pu_i3, pu_i4, pu_i5, pu_i6, pu_i7, pu_i8, pu_i9, pu_i10, pu_i11, pu_i12, pu_i13, pu_i14, pu_i15, pu_i16, pu_i17, pu_i18, pu_i19, pu_i20, pu_i21, pu_i22, pu_i23, pu_i30, pu_i33, pu_i34, pu_i35, pu_i36, pu_i40, pu_i41, pu_i42, pu_i45, pu_i46, pu_i48, pu_i49, pu_i50, pu_i57, pu_i59, pu_i60, pu_i62, pu_i66, pu_i86, pu_i94, pu_i99, pu_i100, pu_i103, pu_i106, pu_i108, pu_i109, pu_i111, pu_i113, pu_i119, pu_i126, pu_i999, pu_bnd, pu_nm, pu_gd, pu_bnd2, pu_inb, pu_at, pu_put, pu_us, pu_un, pu_Rs, pu_Rn, pu_upS, pu_RR, nI_add, pk_mul, pk_sub, nI_clamp, nI_eq, nI_leI, nI_ltI, pu_nI_mI, pu_mI_nI, pu_mm, pu_nn, pu_nI_le_mI, pu_nI_lt_mI, pu_mI_lt, pu_mI_le, pu_inW, pu_inO, if_pos, if_neg, ↓reduceIte, pu_bnd3]
    · rw [x8, if_neg (by omega)]
      exact g0
    · rw [x7 1 (by omega), if_neg (by omega), gS]
      exact hS
    · rw [x7 _ (by omega), if_pos (by omega)]
    · rw [x7 1 (by omega), if_neg (by omega), gS]
  rcases Nat.lt_or_ge s 6 with h6 | h6
  · have e : min (s + 1) 6 = s + 1 := by omega
    rw [e]
    refine key O a s ha h6 e1 e2 e0 rfl ?_
    unfold f_X2_save
    simp (disch := omega) only [e2, ↓pu_m1, pu_i0, pu_i1, pu_i2, pu_i3, pu_i4, pu_i5, pu_i6, pu_i7, pu_i8, pu_i9, pu_i10, pu_i11, pu_i12, pu_i13, pu_i14, pu_i15, pu_i16, pu_i17, pu_i18, pu_i19, pu_i20, pu_i21, pu_i22, pu_i23, pu_i30, pu_i33, pu_i34, pu_i35, pu_i36, pu_i40, pu_i41, pu_i42, pu_i45, pu_i46, pu_i48, pu_i49, pu_i50, pu_i57, pu_i59, pu_i60, pu_i62, pu_i66, pu_i86, pu_i94, pu_i99, pu_i100, pu_i103, pu_i106, pu_i108, pu_i109, pu_i111, pu_i113, pu_i119, pu_i126, pu_i999, pu_bnd, pu_nm, pu_gd, pu_bnd2, pu_inb, pu_at, pu_put, pu_us, pu_un, pu_Rs, pu_Rn, pu_upS, pu_RR, nI_add, pk_mul, pk_sub, nI_clamp, nI_eq, nI_leI, nI_ltI, pu_nI_mI, pu_mI_nI, pu_mm, pu_nn, pu_nI_le_mI, pu_nI_lt_mI, pu_mI_lt, pu_mI_le, pu_inW, pu_inO, if_pos, if_neg, ↓reduceIte, pu_bnd3]
  · have e6 : s = 6 := by omega
    subst e6
    have e : min (6 + 1) 6 = 5 + 1 := by omega
    rw [e]
    have x8 : ∀ (q i : Nat), (upOS (upOS O 0 1 (nI ((a + 1) % 6))) 0 2 (nI 5)) 8 q i = if q = 0 ∧ i = 2 then nI 5 else if q = 0 ∧ i = 1 then nI ((a + 1) % 6) else O 8 q i := by
      intro q i
      rw [upOS_8, upOS_8]
    refine key (upOS (upOS O 0 1 (nI ((a + 1) % 6))) 0 2 (nI 5)) ((a + 1) % 6) 5 (by omega) (by omega) ?_ ?_ ?_ ?_ ?_
    · rw [x8, if_neg (by omega), if_pos ⟨rfl, rfl⟩]
    · rw [x8, if_pos ⟨rfl, rfl⟩]
    · rw [x8, if_neg (by omega), if_neg (by omega)]
      exact e0
    · rw [upOS_n 1 (by omega), upOS_n 1 (by omega)]
    · have er : (nI a + 1) - (nI a + 1) / 6 * 6 = nI ((a + 1) % 6) := by
        rw [pu_i1, pu_i6, nI_add]
        exact pk_rem (a := a + 1) (d := 6) (by omega) (by omega) (by omega)
      have o2 : (upOS O 0 1 (nI ((a + 1) % 6))) 8 0 2 = nI 6 := by
        rw [upOS_8, if_neg (by omega)]
        exact e2
      unfold f_X2_save
      rw [e1, e2, er, if_pos (show nI 6 = 6 from rfl), pu_nm, o2, pu_nm]
      rfl
theorem p_undo {B s : Nat} {O : XO} {K K1 : RK} (h : OI B O s) (hl : LSt O s K) : ∃ O2 : XO, f_X5_undo O K1 = some (nI (s - 1), O2, K) ∧ OI B O2 (s - 1) ∧ O2 1 = O 1 := by
  obtain ⟨-, e0, hS⟩ := h
  obtain ⟨a, ⟨ha, hs, x1, x2⟩, h0, hk⟩ := hl
  have hix : st_ix O (nI (s - 1)) = nI ((a + (s - 1)) % 6) := by
    unfold st_ix
    rw [x1, nI_add, pu_i6]
    exact pk_rem (a := a + (s - 1)) (d := 6) (by omega) (by omega) (by omega)
  refine ⟨upOS O 0 2 (nI (s - 1)), ?_, ⟨⟨a, ha, by omega, ?_, ?_⟩, ?_, ?_⟩, upOS_n 1 (by omega)⟩
  · have y1 : upOS O 0 2 (nI (s - 1)) 8 0 2 = nI (s - 1) := by rw [upOS_8, if_pos ⟨rfl, rfl⟩]
    have y2 : f_X2_bringBack O K1 = some (upOS O 0 2 (nI (s - 1)), K) := by
      unfold f_X2_bringBack
      rw [x2, pu_i1, pk_sub (by omega), hix, pu_nm, pu_inb (by omega) (by omega), pu_gd, nI_clamp (by omega), pu_nm, pu_nm, Nat.add_comm, hk]
    unfold f_X5_undo
    rw [x2, if_neg (show ¬ nI s ≤ 0 from nI_ge (a := 0) (b := s) (by omega) (by omega))]
    unfold f_X5_undo_b15
    rw [show ndb 1 = true from pu_ndb (a := 1) (by omega) (by omega), pu_gd, y2, pu_bnd2, y1]
  · rw [upOS_8, if_neg (by omega)]
    exact x1
  · rw [upOS_8, if_pos ⟨rfl, rfl⟩]
  · rw [upOS_8, if_neg (by omega)]
    exact e0
  · rw [upOS_n 1 (by omega)]
    exact hS
theorem p_keep {B a s : Nat} {O : XO} {K : RK} (h : OW O a s) (hK : SI B K) : ∃ O2 : XO, f_X5_keep O K = some (K 11 0, O2) ∧ OI B O2 s := by
  obtain ⟨ha, hs, e1, e2⟩ := h
  have x8 : ∀ (q i : Nat), (upOS (upB O 1 K) 0 0 (nI 1)) 8 q i = if q = 0 ∧ i = 0 then nI 1 else O 8 q i := by
    intro q i
    rw [upOS_8]
    rfl
  refine ⟨upOS (upB O 1 K) 0 0 (nI 1), rfl, ⟨⟨a, ha, hs, ?_, ?_⟩, ?_, ?_⟩⟩
  · rw [x8, if_neg (by omega)]
    exact e1
  · rw [x8, if_neg (by omega)]
    exact e2
  · rw [x8, if_pos ⟨rfl, rfl⟩]
  · rw [upOS_n 1 (by omega)]
    exact hK
