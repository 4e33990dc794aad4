/-! the pure part of p33: the law's turns -/
theorem OI.mono {B B2 s : Nat} {O : XO} (hB : B ≤ B2) (h : OI B O s) : OI B2 O s := ⟨h.1, h.2.1, h.2.2.mono hB⟩
section LW
variable {L : Nat} {xs : Nat → Int32} {k30 : XO → RK → Int32 → Int32 → Option Int32} {t : Nat} {K : RK}
theorem l_273 (ht : t < 66) (k : ∀ (O : XO) (s : Nat), OI (t + 1) O s → k30 O K (nI 1) (nI (t + 1)) = some (nI 1)) {O : XO} {s : Nat} (hO : OI (t + 1) O s) : f_L_law_b273 k30 L xs O K (nI t) = some (nI 1) := by
  unfold f_L_law_b273 f_L_law_b278
  rw [pu_nm, pu_i1, nI_add]
  exact k O s hO
theorem l_252 (ht : t < 66) (h : SI (t + 1) K) (k : ∀ (O : XO) (s : Nat), OI (t + 1) O s → k30 O K (nI 1) (nI (t + 1)) = some (nI 1)) {O : XO} {s : Nat} (hO : OI (t + 1) O s) : f_L_law_b252 k30 L xs O K (nI t) = some (nI 1) := by
  unfold f_L_law_b252
  by_cases z : (nI t - nI t / 23 * 23) = 14
  · rw [if_pos z]
    obtain ⟨a, hw⟩ := hO.1
    obtain ⟨O2, q1, q2⟩ := p_keep hw h
    obtain ⟨n, l, hi⟩ := h
    have c0 : f_X5_count O2 K 0 = some (K 11 0) := (e_count O2 hi.1).1
    rw [q1, pu_bnd2, c0, pu_bnd, if_pos rfl]
    exact l_273 ht k q2
  · rw [if_neg z]
    exact l_273 ht k hO
theorem l_198 (ht : t < 66) (h : SI (t + 1) K) (k : ∀ (O : XO) (s : Nat), OI (t + 1) O s → k30 O K (nI 1) (nI (t + 1)) = some (nI 1)) {O : XO} {s : Nat} (hO : OI (t + 1) O s) (x y : Int32) : f_L_law_b198 k30 L xs O K (nI 1) (nI t) x y = some (nI 1) := by
  have hB : 360 * (t + 1) < 2 ^ 30 - 360 := by omega
  obtain ⟨n, l, hi⟩ := id h
  have hn := hi.1.n10
  have c1 : f_X5_count O K 1 = some (nI n) := (e_count O hi.1).2.1
  have ph := p_holds hi (show 360 * (t + 1) < 2 ^ 30 by omega) O
  unfold f_L_law_b198
  rw [c1, pu_bnd, if_neg (show ¬ nI 1 = 0 from by decide), ph, pu_bnd, if_neg (show ¬ nI 1 = 0 from by decide)]
  by_cases z : (nI t - nI t / 3 * 3) = 1
  · rw [if_pos z]
    by_cases z2 : n = 0
    · rw [if_pos (show nI n = 0 from by rw [z2]; rfl)]
      exact l_252 ht h k hO
    · obtain ⟨g, hg, eg⟩ := up_n (x >>> (5 &&& 31)) (show 0 < n by omega) (show n < 2 ^ 31 by omega)
      obtain ⟨c, hc, ec⟩ := up_n (y >>> (5 &&& 31)) (show 0 < 3 by omega) (by omega)
      have ec' : up_ (y >>> (5 &&& 31)) 3 = nI c := ec
      have u3 : upb 3 = true := pu_upb (a := 3) (by omega) (by omega)
      obtain ⟨O2, s2, q1, q2, q3⟩ := p_ahead hi hB hO hg hc
      rw [if_neg (nz z2 (by omega)), pu_upb (a := n) (by omega) (by omega), pu_gd, pu_nm, eg, u3, pu_gd, pu_nm, ec', q1, pu_bnd3, if_neg (show ¬ nI 1 = 0 from by decide)]
      exact l_252 ht h k q2
  · rw [if_neg z]
    exact l_252 ht h k hO
end LW
theorem p_loop {L : Nat} {xs : Nat → Int32} : ∀ (k t F : Nat) (O : XO) (K : RK) (s : Nat), t + k = 66 → k < F → SI t K → OI t O s → f_L_law_l30 L xs F O K (nI 1) (nI t) = some (nI 1) := by
  intro k
  induction k with
  | zero =>
    intro t F O K s hi hF hK hO
    obtain ⟨F, rfl⟩ : ∃ q, F = q + 1 := ⟨F - 1, by omega⟩
    rw [Nat.add_zero] at hi
    subst hi
    unfold f_L_law_l30
    rw [if_pos (show (66 : Int32) ≤ nI 66 from Int32.le_refl _)]
    rfl
  | succ k ih =>
    intro t F O K s hi hF hK hO
    obtain ⟨F, rfl⟩ : ∃ q, F = q + 1 := ⟨F - 1, by omega⟩
    have ht : t < 66 := by omega
    have hB : 360 * t < 2 ^ 30 - 360 := by omega
    obtain ⟨n, l, h⟩ := id hK
    obtain ⟨y, hy⟩ := e_looks h.1
    have cel : ∀ a : Nat, a < 2 ^ 31 → celb (nI a) = true := by
      intro a ha
      unfold celb
      rw [decide_eq_true_iff]
      exact nI_pos ha
    have e2 : (2 : Int32) * nI t = nI (2 * t) := by rw [pu_i2, pk_mul]
    obtain ⟨x1, hx1⟩ : ∃ x1, x1 = cell_ L xs (nI (2 * t)) := ⟨_, rfl⟩
    obtain ⟨x2, hx2⟩ : ∃ x2, x2 = cell_ L xs (nI (2 * t + 1)) := ⟨_, rfl⟩
    obtain ⟨v, K2, hv, hS2, ha⟩ := p_act (S := O 1) h hO.2.2 hB x1 x2
    obtain ⟨O2, a1, a2, a3, a4⟩ := ha O s hO rfl
    obtain ⟨n2, l2, h2⟩ := id hS2
    obtain ⟨y2, hy2⟩ := e_looks h2.1
    have a1' : f_L_act O K x1 x2 = some (nI v, O2, K2) := a1
    obtain ⟨b, -, hs, -, es⟩ := hO.1
    obtain ⟨b2, -, hs2, -, es2⟩ := a2.1
    have c21 : f_X5_count O K 21 = some (nI s) := by rw [← es]; exact (e_count O h.1).2.2.2.2.2.2.2.2.2.2.2.2.2.2.2.1
    have d21 : f_X5_count O2 K2 21 = some (nI (min (s + 1) 6)) := by rw [← es2]; exact (e_count O2 h2.1).2.2.2.2.2.2.2.2.2.2.2.2.2.2.2.1
    have kk : ∀ (O : XO) (s : Nat), OI (t + 1) O s → f_L_law_l30 L xs F O K2 (nI 1) (nI (t + 1)) = some (nI 1) := fun O s hO => ih (t + 1) F O K2 s (by omega) (by omega) hS2 hO
    have b119 : f_L_law_b119 (f_L_law_l30 L xs F) L xs O2 K2 (nI t) x1 x2 y (nI v) 1 = some (nI 1) := by
      unfold f_L_law_b119
      rw [if_neg (show ¬ (1 : Int32) = 0 from by decide)]
      by_cases z : ((x1 >>> (8 &&& 31)) &&& 3) = 0
      · obtain ⟨O4, u1, u2, u3⟩ := p_undo (K1 := K2) a2 a3
        obtain ⟨O8, w1, w2, w3, w4⟩ := ha O4 _ u2 (by rw [u3, a4])
        have w1' : f_L_act O4 K x1 x2 = some (nI v, O8, K2) := w1
        rw [if_pos z, hy2 O2, pu_bnd, d21, pu_bnd, u1, pu_bnd3, if_pos (show nI (min (s + 1) 6 - 1) = nI (min (s + 1) 6) - 1 from by rw [pu_i1, pk_sub (by omega)]), hy O4, pu_bnd, lg_same, if_pos (show nI 0 = 0 from rfl), w1', pu_bnd3, if_pos rfl, hy2 O8, pu_bnd, lg_same, if_pos (show nI 0 = 0 from rfl)]
        unfold f_L_law_b197
        exact l_198 ht hS2 kk (w2.mono (by omega)) x1 x2
      · rw [if_neg z]
        exact l_198 ht hS2 kk (a2.mono (by omega)) x1 x2
    unfold f_L_law_l30
    rw [if_neg (show ¬ (66 : Int32) ≤ nI t from nI_ge (a := t) (b := 66) ht (by omega)), if_neg (show ¬ nI 1 = 0 from by decide), e2, cel (2 * t) (by omega), pu_gd, pu_nm, ← hx1, pu_i1, nI_add, cel (2 * t + 1) (by omega), pu_gd, pu_nm, ← hx2, hy O, pu_bnd, c21, pu_bnd, a1', pu_bnd3, if_neg (show ¬ nI v < 0 from nI_pos hv), d21, pu_bnd]
    by_cases z : 6 ≤ s
    · rw [if_pos (show 6 ≤ nI s from nI_le (a := 6) (b := s) z (by omega))]
      unfold f_L_law_b111
      rw [if_pos (show nI (min (s + 1) 6) = 6 from by rw [show min (s + 1) 6 = 6 from by omega]; rfl)]
      exact b119
    · rw [if_neg (show ¬ 6 ≤ nI s from nI_ge (a := s) (b := 6) (by omega) (by omega)), nI_add]
      unfold f_L_law_b111
      rw [if_pos (show nI (min (s + 1) 6) = nI (s + 1) from by rw [show min (s + 1) 6 = s + 1 from by omega])]
      exact b119
/-- the start: nobody is there -/
theorem kK0_inv : Inv 0 0 (fun _ => 0) kK0 := by
  refine ⟨⟨⟨by omega, rfl, ⟨0, by omega, rfl⟩, ⟨2, by omega, rfl⟩, ⟨4, by omega, rfl⟩, ⟨3, by omega, rfl⟩, ⟨2, by omega, rfl⟩, ⟨2, by omega, rfl⟩, ⟨10, by omega, rfl⟩⟩, ?_, ?_, ⟨?_, ?_, ?_, ?_⟩⟩, ⟨rfl, rfl, rfl⟩, ?_⟩
  · intro g hg
    exact absurd hg (Nat.not_lt_zero _)
  · intro g hg
    exact absurd hg (Nat.not_lt_zero _)
  · intro c hc
    rcases (show c = 0 ∨ c = 1 ∨ c = 2 by omega) with e | e | e <;> subst e <;> rfl
  · intro c hc k hk
    exact absurd hk (Nat.not_lt_zero _)
  · intro c hc
    exact Nat.zero_le _
  · intro c hc k hk
    exact absurd hk (Nat.not_lt_zero _)
  · intro c hc k hk
    exact absurd hk (Nat.not_lt_zero _)
theorem p_start : ∃ O1 : XO, f_X5_keep O0 kK0 = some (0, O1) ∧ f_L_holds O1 kK0 = some 1 ∧ ∀ (L : Nat) (xs : Nat → Int32), f_L_law_l30 L xs fuelN O1 kK0 1 0 = some 1 := by
  have hS : SI 0 kK0 := ⟨0, _, kK0_inv⟩
  obtain ⟨O1, q1, q2⟩ := p_keep (a := 0) (s := 0) (O := O0) ⟨by omega, by omega, rfl, rfl⟩ hS
  refine ⟨O1, q1, p_holds kK0_inv (by omega) O1, fun L xs => ?_⟩
  exact p_loop 66 0 fuelN O1 kK0 0 (by omega) (by unfold fuelN; omega) hS q2
