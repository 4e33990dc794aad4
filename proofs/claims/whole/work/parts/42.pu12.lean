/-! the pure part: the whole state, saving, undoing, keeping -/
def RW (B : Nat) (K : RK) (w : Nat → Int32) : Prop := ∃ (n : Nat) (l : Nat → Nat), Rel B n l K w
def Ring (B : Nat) (O : XO) (M : MS) : Prop := ∃ a s : Nat, a < 6 ∧ s ≤ 6 ∧ O 8 0 1 = nI a ∧ O 8 0 2 = nI s ∧ M.1 3 1 = nI s ∧ ∀ i, i < s → RW B (O (2 + (a + i) % 6)) (fun k => M.1 0 (119 * (i + 1) + k))
def Snap (B : Nat) (O : XO) (M : MS) : Prop := (O 8 0 0 = nI 0 ∧ M.1 3 2 = nI 0) ∨ (O 8 0 0 = nI 1 ∧ M.1 3 2 = nI 1 ∧ RW B (O 1) (fun k => M.1 0 (119 * 7 + k)))
def Txt (O : XO) (M : MS) : Prop := ∃ T : Nat, T ≤ 60 ∧ O 8 0 3 = nI T ∧ M.1 3 3 = nI T ∧ ∀ i, i < T → ∃ v : Nat, v ≤ 126 ∧ O 8 1 i = nI v ∧ M.1 1 i = nI v
def RR (c : Nat) (O : XO) (K : RK) (M : MS) : Prop := RW (600 * c) K (M.1 0) ∧ Ring (600 * c) O M ∧ Snap (600 * c) O M ∧ Txt O M
theorem RW.mono {B B2 : Nat} {K : RK} {w : Nat → Int32} (hB : B ≤ B2) (h : RW B K w) : RW B2 K w := by
  obtain ⟨n, l, h⟩ := h
  exact ⟨n, l, h.mono hB⟩
theorem RW.cg {B : Nat} {K : RK} {w w2 : Nat → Int32} (hw : ∀ j, j < 119 → w j = w2 j) (h : RW B K w) : RW B K w2 := by
  obtain ⟨n, l, h⟩ := h
  exact ⟨n, l, h.congr (fun _ _ => rfl) hw⟩
theorem Ring.fr {B B2 : Nat} {O : XO} {M M2 : MS} (hB : B ≤ B2) (hf : FR M M2) (h : Ring B O M) : Ring B2 O M2 := by
  obtain ⟨a, s, h1, h2, h3, h4, h5, h6⟩ := h
  refine ⟨a, s, h1, h2, h3, h4, by rw [hf.2.2 1 (by omega) (by omega)]; exact h5, ?_⟩
  intro i hi
  exact ((h6 i hi).mono hB).cg (fun j hj => (hf.1 _ (by omega)).symm)
theorem Snap.fr {B B2 : Nat} {O : XO} {M M2 : MS} (hB : B ≤ B2) (hf : FR M M2) (h : Snap B O M) : Snap B2 O M2 := by
  rcases h with ⟨h1, h2⟩ | ⟨h1, h2, h3⟩
  · exact Or.inl ⟨h1, by rw [hf.2.2 2 (by omega) (by omega)]; exact h2⟩
  · exact Or.inr ⟨h1, by rw [hf.2.2 2 (by omega) (by omega)]; exact h2, (h3.mono hB).cg (fun j hj => (hf.1 _ (by omega)).symm)⟩
theorem Txt.fr {O : XO} {M M2 : MS} (hf : FR M M2) (h : Txt O M) : Txt O M2 := by
  obtain ⟨T, h1, h2, h3, h4⟩ := h
  refine ⟨T, h1, h2, by rw [hf.2.2 3 (by omega) (by omega)]; exact h3, ?_⟩
  rw [hf.2.1]
  exact h4
theorem RR.op {c : Nat} {O : XO} {K K2 : RK} {M M2 : MS} (h : RR c O K M) (hf : FR M M2) (hr : RW (600 * (c + 1)) K2 (M2.1 0)) : RR (c + 1) O K2 M2 := ⟨hr, h.2.1.fr (by omega) hf, h.2.2.1.fr (by omega) hf, h.2.2.2.fr hf⟩
theorem RR.same {c : Nat} {O : XO} {K : RK} {M M2 : MS} (h : RR c O K M) (hf : FR M M2) (hw : ∀ j, j < 119 → M2.1 0 j = M.1 0 j) : RR c O K M2 := ⟨h.1.cg (fun j hj => (hw j hj).symm), h.2.1.fr (Nat.le_refl _) hf, h.2.2.1.fr (Nat.le_refl _) hf, h.2.2.2.fr hf⟩
theorem RR.mono {c : Nat} {O : XO} {K : RK} {M : MS} (h : RR c O K M) : RR (c + 1) O K M := h.op (FQ.refl M).fr (h.1.mono (by omega))
theorem FR.th (M : MS) (v : Int32) : FR M (upMS M 3 0 v) := by
  rw [pu_MS]
  refine ⟨?_, ?_, ?_⟩
  · intro k hk
    rw [pu_M1, pu_Rn (by omega)]
  · rw [pu_M1, pu_Rn (by omega)]
  · intro q q0 q1
    rw [pu_M1, pu_Rs, pu_un (by omega)]
theorem FR.trans {M M2 M3 : MS} (h : FR M M2) (h2 : FR M2 M3) : FR M M3 := ⟨fun k hk => by rw [h2.1 k hk, h.1 k hk], by rw [h2.2.1, h.2.1], fun q a b => by rw [h2.2.2 q a b, h.2.2 q a b]⟩
theorem th0 (M : MS) (v : Int32) : (upMS M 3 0 v).1 0 = M.1 0 := by
  rw [pu_MS, pu_M1, pu_Rn (by omega)]
theorem th3 (M : MS) (v : Int32) : (upMS M 3 0 v).1 3 0 = v := by
  rw [pu_MS, pu_M1, pu_Rs, pu_us rfl]
theorem RR.th {c : Nat} {O : XO} {K : RK} {M : MS} (h : RR c O K M) (v : Int32) : RR c O K (upMS M 3 0 v) := h.same (FR.th M v) (fun j _ => by rw [th0])
theorem RR.f2 {c : Nat} {O : XO} {K : RK} {M : MS} (h : RR c O K M) (f : Nat → Int32) : RR c O K (upM M 2 f) := h.same (FQ2 M f).fr (fun j _ => by rw [pu_M1, pu_Rn (by omega)])
theorem lp_save {O : XO} : ∀ (k i F : Nat) (M : MS), i + k = 6 → 1 ≤ i → M.1 3 1 = nI 6 → k < F → ∃ f : Nat → Int32, f_X6_save_l2 F M (nI i) = f_X6_save_b31 (upM M 0 f) ∧ (∀ w, i ≤ w → w < 6 → ∀ j, j < 119 → f (119 * w + j) = M.1 0 (119 * (w + 1) + j)) ∧ (∀ j, (j < 119 * i ∨ 714 ≤ j) → f j = M.1 0 j) := by
  intro k
  induction k with
  | zero =>
    intro i F M hi h1 hs hF
    obtain ⟨F, rfl⟩ : ∃ q, F = q + 1 := ⟨F - 1, by omega⟩
    refine ⟨M.1 0, ?_, fun w h2 h3 => absurd h3 (by omega), fun _ _ => rfl⟩
    rw [upM_self]
    rw [show f_X6_save_l2 (F + 1) M (nI i) = _ from by unfold f_X6_save_l2; rfl]
    rw [if_pos (show (6 : Int32) ≤ nI i from nI_le (a := 6) (b := i) (by omega) (by omega))]
  | succ k ih =>
    intro i F M hi h1 hs hF
    obtain ⟨F, rfl⟩ : ∃ q, F = q + 1 := ⟨F - 1, by omega⟩
    obtain ⟨f1, a1, a2, a3⟩ := lp_copies (a := i + 1) (b := i) (by omega) (by omega) (by omega) M
    obtain ⟨f, b1, b2, b3⟩ := ih (i + 1) F (upM M 0 f1) (by omega) (by omega) (by rw [pu_M1, pu_Rn (by omega)]; exact hs) (by omega)
    rw [pu_MM] at b1
    rw [pu_M1, pu_Rs] at b2 b3
    refine ⟨f, ?_, ?_, ?_⟩
    · rw [show f_X6_save_l2 (F + 1) M (nI i) = _ from by unfold f_X6_save_l2; rfl]
      rw [if_neg (show ¬ (6 : Int32) ≤ nI i from nI_ge (a := i) (b := 6) (by omega) (by omega))]
      simp (disch := omega) only [hs, a1, ↓pu_m1, pu_i0, pu_i1, pu_i2, pu_i3, pu_i4, pu_i5, pu_i6, pu_i7, pu_i8, pu_i9, pu_i10, pu_i11, pu_i12, pu_i13, pu_i14, pu_i15, pu_i16, pu_i17, pu_i18, pu_i19, pu_i20, pu_i21, pu_i22, pu_i30, pu_i33, pu_i34, pu_i36, pu_i40, pu_i42, pu_i48, pu_i49, pu_i50, pu_i57, pu_i59, pu_i60, pu_i62, pu_i86, pu_i94, pu_i99, pu_i103, pu_i106, pu_i108, pu_i109, pu_i111, pu_i113, pu_i119, pu_i126, pu_i999, pu_bnd, pu_nm, pu_gd, pu_bnd2, pu_bxl, pu_bxr, pu_inb, pu_at, pu_put, pu_us, pu_un, pu_Rs, pu_Rn, pu_upS, pu_M1, pu_M2, pu_MS, pu_MM, pu_RR, pu_H1, pu_H2, nI_add, pk_mul, pk_sub, nI_clamp, nI_eq, nI_leI, nI_ltI, pu_in, pu_of, pu_lay, pu_ll, pu_il, pu_h0, pu_h1, pu_h2, pu_nI_mI, pu_mI_nI, pu_mm, pu_nn, pu_nI_le_mI, pu_nI_lt_mI, pu_mI_lt, pu_mI_le, pu_inW, pu_inO, if_pos, if_neg, ↓reduceIte]
      exact b1
    · intro w w1 w2 j hj
      by_cases e : w = i
      · subst e
        rw [b3 _ (by omega), a2 j hj]
      · rw [b2 w (by omega) w2 j hj, a3 _ (by omega)]
    · intro j hj
      rw [b3 j (by omega), a3 j (by omega)]
theorem s_save {c : Nat} {O : XO} {K : RK} {M : MS} (h : RR c O K M) : ∃ (O2 : XO) (M2 : MS), f_X2_save O K = some O2 ∧ f_X6_save M = some M2 ∧ RR c O2 K M2 ∧ M2.1 3 0 = M.1 3 0 ∧ (∀ j, j < 119 → M2.1 0 j = M.1 0 j) ∧ O2 8 0 0 = O 8 0 0 ∧ M2.1 3 2 = M.1 3 2 ∧ O2 8 0 3 = O 8 0 3 ∧ O2 8 1 = O 8 1 ∧ M2.1 1 = M.1 1 ∧ M2.1 3 3 = M.1 3 3 := by
  obtain ⟨hK, ⟨a, s, ha, hs, e1, e2, e3, hw⟩, hS, hT⟩ := h
  have key : ∀ (O1 : XO) (M1 : MS) (a' s' : Nat), a' < 6 → s' < 6 → O1 8 0 1 = nI a' → O1 8 0 2 = nI s' → O1 8 0 0 = O 8 0 0 → O1 8 0 3 = O 8 0 3 → O1 8 1 = O 8 1 → (∀ q, q < 8 → O1 q = O q) → M1.1 1 = M.1 1 → (∀ q, q ≠ 1 → M1.1 3 q = M.1 3 q) → (∀ j, (j < 119 ∨ 714 ≤ j) → M1.1 0 j = M.1 0 j) → (∀ i, i < s' → RW (600 * c) (O1 (2 + (a' + i) % 6)) (fun k => M1.1 0 (119 * (i + 1) + k))) → (∃ y0 y1, f_X6_save M = f_X6_save_b50 M1 y0 y1 ∧ y1 + y0 = nI (s' + 1)) → f_X2_save O K = f_X2_save_b32 K O1 → ∃ (O2 : XO) (M2 : MS), f_X2_save O K = some O2 ∧ f_X6_save M = some M2 ∧ RR c O2 K M2 ∧ M2.1 3 0 = M.1 3 0 ∧ (∀ j, j < 119 → M2.1 0 j = M.1 0 j) ∧ O2 8 0 0 = O 8 0 0 ∧ M2.1 3 2 = M.1 3 2 ∧ O2 8 0 3 = O 8 0 3 ∧ O2 8 1 = O 8 1 ∧ M2.1 1 = M.1 1 ∧ M2.1 3 3 = M.1 3 3 := by
    intro O1 M1 a' s' ha' hs' g1 g2 g0 g3 gt gq m1 m3 m0 hwin hsv hcl
    obtain ⟨y0, y1, hsv, hy⟩ := hsv
    have hix : st_ix O1 (nI s') = nI ((a' + s') % 6) := by
      unfold st_ix
      rw [g1, nI_add, pu_i6]
      exact pk_rem (a := a' + s') (d := 6) (by omega) (by omega) (by omega)
    obtain ⟨f, f1, f2, f3⟩ := lp_copies (a := 0) (b := s' + 1) (by omega) (by omega) (by omega) (upMS M1 3 1 (nI (s' + 1)))
    have mm : (upMS M1 3 1 (nI (s' + 1))).1 0 = M1.1 0 := by rw [pu_MS, pu_M1, pu_Rn (by omega)]
    rw [mm] at f2 f3
    have x8 : ∀ (q i : Nat), (upOS (upB O1 ((a' + s') % 6 + 2) K) 0 2 (nI (s' + 1))) 8 q i = if q = 0 ∧ i = 2 then nI (s' + 1) else O1 8 q i := by
      intro q i
      unfold upOS upO upB
      rw [if_pos rfl, if_neg (by omega)]
      by_cases z : q = 0
      · subst z
        rw [pu_Rs]
        by_cases z2 : i = 2
        · rw [pu_us z2, if_pos ⟨rfl, z2⟩]
        · rw [pu_un z2, if_neg (by omega)]
      · rw [pu_Rn z, if_neg (by omega)]
    have x7 : ∀ q : Nat, q < 8 → (upOS (upB O1 ((a' + s') % 6 + 2) K) 0 2 (nI (s' + 1))) q = if q = (a' + s') % 6 + 2 then K else O q := by
      intro q hq
      unfold upOS upO upB
      rw [if_neg (by omega)]
      by_cases z : q = (a' + s') % 6 + 2
      · rw [if_pos z, if_pos z]
      · rw [if_neg z, if_neg z, gq q hq]
    have w1 : ∀ (q i : Nat), (upM (upMS M1 3 1 (nI (s' + 1))) 0 f).1 3 q = (if q = 1 then nI (s' + 1) else M.1 3 q) := by
      intro q i
      rw [pu_M1, pu_Rn (by omega), pu_MS, pu_M1, pu_Rs]
      by_cases z : q = 1
      · rw [pu_us z, if_pos z]
      · rw [pu_un z, if_neg z, m3 q z]
    have w0 : (upM (upMS M1 3 1 (nI (s' + 1))) 0 f).1 0 = f := by rw [pu_M1, pu_Rs]
    have wt : (upM (upMS M1 3 1 (nI (s' + 1))) 0 f).1 1 = M.1 1 := by rw [pu_M1, pu_Rn (by omega), pu_MS, pu_M1, pu_Rn (by omega), m1]
    have fl : ∀ j, j < 119 → f j = M.1 0 j := fun j hj => by rw [f3 j (by omega), m0 j (by omega)]
    refine ⟨upOS (upB O1 ((a' + s') % 6 + 2) K) 0 2 (nI (s' + 1)), upM (upMS M1 3 1 (nI (s' + 1))) 0 f, ?_, ?_, ⟨?_, ?_, ?_, ?_⟩, ?_, ?_, ?_, ?_, ?_, ?_, wt, ?_⟩
    · rw [hcl]
      unfold f_X2_save_b32
      have g2' : upB O1 ((a' + s') % 6 + 2) K 8 0 2 = nI s' := by
        unfold upB
        rw [if_neg (by omega)]
        exact g2
      simp (disch := omega) only [g2, hix, g2', ↓pu_m1, pu_i0, pu_i1, pu_i2, pu_i3, pu_i4, pu_i5, pu_i6, pu_i7, pu_i8, pu_i9, pu_i10, pu_i11, pu_i12, pu_i13, pu_i14, pu_i15, pu_i16, pu_i17, pu_i18, pu_i19, pu_i20, pu_i21, pu_i22, pu_i30, pu_i33, pu_i34, pu_i36, pu_i40, pu_i42, pu_i48, pu_i49, pu_i50, pu_i57, pu_i59, pu_i60, pu_i62, pu_i86, pu_i94, pu_i99, pu_i103, pu_i106, pu_i108, pu_i109, pu_i111, pu_i113, pu_i119, pu_i126, pu_i999, pu_bnd, pu_nm, pu_gd, pu_bnd2, pu_bxl, pu_bxr, pu_inb, pu_at, pu_put, pu_us, pu_un, pu_Rs, pu_Rn, pu_upS, pu_M1, pu_M2, pu_MS, pu_MM, pu_RR, pu_H1, pu_H2, nI_add, pk_mul, pk_sub, nI_clamp, nI_eq, nI_leI, nI_ltI, pu_in, pu_of, pu_lay, pu_ll, pu_il, pu_h0, pu_h1, pu_h2, pu_nI_mI, pu_mI_nI, pu_mm, pu_nn, pu_nI_le_mI, pu_nI_lt_mI, pu_mI_lt, pu_mI_le, pu_inW, pu_inO, if_pos, if_neg, ↓reduceIte]
    · rw [hsv]
      unfold f_X6_save_b50
      rw [hy, pu_nm, show (upMS M1 3 1 (nI (s' + 1))).1 3 1 = nI (s' + 1) from by rw [pu_MS, pu_M1, pu_Rs, pu_us rfl]]
      rw [show f_X6_copies (upMS M1 3 1 (nI (s' + 1))) 0 (nI (s' + 1)) = _ from f1]
      rfl
    · rw [w0]
      exact hK.cg (fun j hj => (fl j hj).symm)
    · refine ⟨a', s' + 1, ha', by omega, ?_, ?_, ?_, ?_⟩
      · rw [x8, if_neg (by omega)]
        exact g1
      · rw [x8, if_pos ⟨rfl, rfl⟩]
      · rw [w1 1 0, if_pos rfl]
      · intro i hi
        rw [x7 _ (by omega), w0]
        by_cases z : i = s'
        · subst z
          rw [if_pos (by omega)]
          exact hK.cg (fun j hj => by
            show M.1 0 j = f (119 * (i + 1) + j)
            rw [f2 j hj, m0 _ (by omega), show 119 * 0 + j = j from by omega])
        · rw [if_neg (by omega), ← gq _ (by omega)]
          exact (hwin i (by omega)).cg (fun j hj => by
            show M1.1 0 (119 * (i + 1) + j) = f (119 * (i + 1) + j)
            rw [f3 _ (by omega)])
    · unfold Snap
      rw [x8, if_neg (by omega), g0, w1 2 0, if_neg (by omega), w0, x7 1 (by omega), if_neg (by omega)]
      rcases hS with q | ⟨q1, q2, q3⟩
      · exact Or.inl q
      · exact Or.inr ⟨q1, q2, q3.cg (fun j hj => by
          show M.1 0 (119 * 7 + j) = f (119 * 7 + j)
          rw [f3 _ (by omega), m0 _ (by omega)])⟩
    · obtain ⟨T, t1, t2, t3, t4⟩ := hT
      refine ⟨T, t1, ?_, ?_, ?_⟩
      · rw [x8, if_neg (by omega), g3]
        exact t2
      · rw [w1 3 0, if_neg (by omega)]
        exact t3
      · intro i hi
        rw [x8, if_neg (by omega), gt, wt]
        exact t4 i hi
    · rw [w1 0 0, if_neg (by omega)]
    · rw [w0]
      exact fl
    · rw [x8, if_neg (by omega), g0]
    · rw [w1 2 0, if_neg (by omega)]
    · rw [x8, if_neg (by omega), g3]
    · funext i
      rw [x8, if_neg (by omega), gt]
    · rw [w1 3 0, if_neg (by omega)]
  rcases Nat.lt_or_ge s 6 with h6 | h6
  · refine key O M a s ha h6 e1 e2 rfl rfl rfl (fun _ _ => rfl) rfl (fun _ _ => rfl) (fun _ _ => rfl) hw ?_ ?_
    · refine ⟨nI 1, nI s, ?_, by rw [nI_add]⟩
      have u : f_X6_save M = f_X6_save_l2 (999 + 1) M (nI 1) := rfl
      rw [u]
      rw [show f_X6_save_l2 (999 + 1) M (nI 1) = _ from by unfold f_X6_save_l2; rfl]
      simp (disch := omega) only [e3, f_X6_save_b31, ↓pu_m1, pu_i0, pu_i1, pu_i2, pu_i3, pu_i4, pu_i5, pu_i6, pu_i7, pu_i8, pu_i9, pu_i10, pu_i11, pu_i12, pu_i13, pu_i14, pu_i15, pu_i16, pu_i17, pu_i18, pu_i19, pu_i20, pu_i21, pu_i22, pu_i30, pu_i33, pu_i34, pu_i36, pu_i40, pu_i42, pu_i48, pu_i49, pu_i50, pu_i57, pu_i59, pu_i60, pu_i62, pu_i86, pu_i94, pu_i99, pu_i103, pu_i106, pu_i108, pu_i109, pu_i111, pu_i113, pu_i119, pu_i126, pu_i999, pu_bnd, pu_nm, pu_gd, pu_bnd2, pu_bxl, pu_bxr, pu_inb, pu_at, pu_put, pu_us, pu_un, pu_Rs, pu_Rn, pu_upS, pu_M1, pu_M2, pu_MS, pu_MM, pu_RR, pu_H1, pu_H2, nI_add, pk_mul, pk_sub, nI_clamp, nI_eq, nI_leI, nI_ltI, pu_in, pu_of, pu_lay, pu_ll, pu_il, pu_h0, pu_h1, pu_h2, pu_nI_mI, pu_mI_nI, pu_mm, pu_nn, pu_nI_le_mI, pu_nI_lt_mI, pu_mI_lt, pu_mI_le, pu_inW, pu_inO, if_pos, if_neg, ↓reduceIte]
    · unfold f_X2_save
      simp (disch := omega) only [e2, ↓pu_m1, pu_i0, pu_i1, pu_i2, pu_i3, pu_i4, pu_i5, pu_i6, pu_i7, pu_i8, pu_i9, pu_i10, pu_i11, pu_i12, pu_i13, pu_i14, pu_i15, pu_i16, pu_i17, pu_i18, pu_i19, pu_i20, pu_i21, pu_i22, pu_i30, pu_i33, pu_i34, pu_i36, pu_i40, pu_i42, pu_i48, pu_i49, pu_i50, pu_i57, pu_i59, pu_i60, pu_i62, pu_i86, pu_i94, pu_i99, pu_i103, pu_i106, pu_i108, pu_i109, pu_i111, pu_i113, pu_i119, pu_i126, pu_i999, pu_bnd, pu_nm, pu_gd, pu_bnd2, pu_bxl, pu_bxr, pu_inb, pu_at, pu_put, pu_us, pu_un, pu_Rs, pu_Rn, pu_upS, pu_M1, pu_M2, pu_MS, pu_MM, pu_RR, pu_H1, pu_H2, nI_add, pk_mul, pk_sub, nI_clamp, nI_eq, nI_leI, nI_ltI, pu_in, pu_of, pu_lay, pu_ll, pu_il, pu_h0, pu_h1, pu_h2, pu_nI_mI, pu_mI_nI, pu_mm, pu_nn, pu_nI_le_mI, pu_nI_lt_mI, pu_mI_lt, pu_mI_le, pu_inW, pu_inO, if_pos, if_neg, ↓reduceIte]
  · have e6 : s = 6 := by omega
    subst e6
    obtain ⟨f, b1, b2, b3⟩ := lp_save (O := O) 5 1 fuelN M (by omega) (by omega) e3 (by unfold fuelN; omega)
    have x8 : ∀ (q i : Nat), (upOS (upOS O 0 1 (nI ((a + 1) % 6))) 0 2 (nI 5)) 8 q i = if q = 0 ∧ i = 2 then nI 5 else if q = 0 ∧ i = 1 then nI ((a + 1) % 6) else O 8 q i := by
      intro q i
      unfold upOS upO
      rw [if_pos rfl, if_pos rfl]
      by_cases z : q = 0
      · subst z
        rw [pu_Rs, pu_Rs]
        by_cases z2 : i = 2
        · rw [pu_us z2, if_pos ⟨rfl, z2⟩]
        · rw [pu_un z2, if_neg (by omega)]
          by_cases z3 : i = 1
          · rw [pu_us z3, if_pos ⟨rfl, z3⟩]
          · rw [pu_un z3, if_neg (by omega)]
      · rw [pu_Rn z, pu_Rn z, if_neg (by omega), if_neg (by omega)]
    have x7 : ∀ q : Nat, q < 8 → (upOS (upOS O 0 1 (nI ((a + 1) % 6))) 0 2 (nI 5)) q = O q := by
      intro q hq
      unfold upOS upO
      rw [if_neg (by omega), if_neg (by omega)]
    refine key (upOS (upOS O 0 1 (nI ((a + 1) % 6))) 0 2 (nI 5)) (upM M 0 f) ((a + 1) % 6) 5 (by omega) (by omega) ?_ ?_ ?_ ?_ ?_ x7 ?_ ?_ ?_ ?_ ?_ ?_
    · rw [x8, if_neg (by omega), if_pos ⟨rfl, rfl⟩]
    · rw [x8, if_pos ⟨rfl, rfl⟩]
    · rw [x8, if_neg (by omega), if_neg (by omega)]
    · rw [x8, if_neg (by omega), if_neg (by omega)]
    · funext i
      rw [x8, if_neg (by omega), if_neg (by omega)]
    · rw [pu_M1, pu_Rn (by omega)]
    · intro q hq
      rw [pu_M1, pu_Rn (by omega)]
    · intro j hj
      rw [pu_M1, pu_Rs, b3 j (by omega)]
    · intro i hi
      rw [x7 _ (by omega), show ((a + 1) % 6 + i) % 6 = (a + (i + 1)) % 6 from by omega]
      exact (hw (i + 1) (by omega)).cg (fun j hj => by
        show M.1 0 (119 * (i + 1 + 1) + j) = (upM M 0 f).1 0 (119 * (i + 1) + j)
        rw [pu_M1, pu_Rs, b2 (i + 1) (by omega) (by omega) j hj])
    · refine ⟨nI 0, nI 6, ?_, by rw [nI_add]⟩
      have u : f_X6_save M = f_X6_save_b31 (upM M 0 f) := b1
      have u2 : (upM M 0 f).1 3 1 = nI 6 := by
        rw [pu_M1, pu_Rn (by omega)]
        exact e3
      rw [u]
      unfold f_X6_save_b31
      simp (disch := omega) only [e3, u2, ↓pu_m1, pu_i0, pu_i1, pu_i2, pu_i3, pu_i4, pu_i5, pu_i6, pu_i7, pu_i8, pu_i9, pu_i10, pu_i11, pu_i12, pu_i13, pu_i14, pu_i15, pu_i16, pu_i17, pu_i18, pu_i19, pu_i20, pu_i21, pu_i22, pu_i30, pu_i33, pu_i34, pu_i36, pu_i40, pu_i42, pu_i48, pu_i49, pu_i50, pu_i57, pu_i59, pu_i60, pu_i62, pu_i86, pu_i94, pu_i99, pu_i103, pu_i106, pu_i108, pu_i109, pu_i111, pu_i113, pu_i119, pu_i126, pu_i999, pu_bnd, pu_nm, pu_gd, pu_bnd2, pu_bxl, pu_bxr, pu_inb, pu_at, pu_put, pu_us, pu_un, pu_Rs, pu_Rn, pu_upS, pu_M1, pu_M2, pu_MS, pu_MM, pu_RR, pu_H1, pu_H2, nI_add, pk_mul, pk_sub, nI_clamp, nI_eq, nI_leI, nI_ltI, pu_in, pu_of, pu_lay, pu_ll, pu_il, pu_h0, pu_h1, pu_h2, pu_nI_mI, pu_mI_nI, pu_mm, pu_nn, pu_nI_le_mI, pu_nI_lt_mI, pu_mI_lt, pu_mI_le, pu_inW, pu_inO, if_pos, if_neg, ↓reduceIte]
    · have er : (nI a + 1) - (nI a + 1) / 6 * 6 = nI ((a + 1) % 6) := by
        rw [pu_i1, pu_i6, nI_add]
        exact pk_rem (a := a + 1) (d := 6) (by omega) (by omega) (by omega)
      have o2 : (upOS O 0 1 (nI ((a + 1) % 6))) 8 0 2 = nI 6 := by
        unfold upOS upO
        rw [if_pos rfl, pu_Rs, pu_un (by omega)]
        exact e2
      unfold f_X2_save
      rw [e1, e2, er, if_pos (show nI 6 = 6 from rfl), pu_nm, o2, pu_nm]
      rfl
