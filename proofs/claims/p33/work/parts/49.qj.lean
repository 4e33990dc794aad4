/-! the pure part of p33: every deed of the law goes through -/
theorem nz {a : Nat} (h : ¬ a = 0) (ha : a < 2 ^ 31) : ¬ nI a = 0 := fun w => h (pu_eqE (b := 0) ha (by omega) w)
section ACM
variable {B n : Nat} {l : Nat → Nat} {S K : RK}
theorem m_36 (h : Inv B n l K) (hn10 : n < 10) (y : Int32) : AP B S K (fun O => f_L_act_b36 O K y) := by
  obtain ⟨r, hr, e1⟩ := up_n y (show 0 < 5 by omega) (by omega)
  obtain ⟨c, hc, e2⟩ := up_n (y >>> (3 &&& 31)) (show 0 < 41 by omega) (by omega)
  have go : ∀ m : Nat, 0 < m → m ≤ 100 → AP B S K (fun O => f_L_act_b70 O K (nI m) (y >>> (9 &&& 31)) (nI c) (nI r)) := by
    intro m h0 hm
    obtain ⟨p, hp, e3⟩ := up_n (y >>> (9 &&& 31)) h0 (by omega)
    refine (a_come h hn10 (show r ≤ 4 by omega) (show c ≤ 40 by omega) (show p ≤ 99 by omega)).eq (fun O => ?_)
    unfold f_L_act_b70
    rw [pu_upb h0 (by omega), pu_gd, pu_nm, e3, bnd3_id]
  have u5 : upb 5 = true := pu_upb (a := 5) (by omega) (by omega)
  have u41 : upb 41 = true := pu_upb (a := 41) (by omega) (by omega)
  have e1' : up_ y 5 = nI r := e1
  have e2' : up_ (y >>> (3 &&& 31)) 41 = nI c := e2
  by_cases q : ((y >>> (17 &&& 31)) &&& 1) = 0
  · refine (go 100 (by omega) (by omega)).eq (fun O => ?_)
    unfold f_L_act_b36
    rw [u5, pu_gd, pu_nm, e1', u41, pu_gd, pu_nm, e2', if_pos q]
    rfl
  · refine (go 15 (by omega) (by omega)).eq (fun O => ?_)
    unfold f_L_act_b36
    rw [u5, pu_gd, pu_nm, e1', u41, pu_gd, pu_nm, e2', if_neg q]
    rfl
theorem m_earn (h : Inv B n l K) (hB : 360 * B < 2 ^ 30) {g : Nat} (hg : g < n) (y : Int32) : AP B S K (fun O => f_L_act_b247 O K y (nI g)) := by
  obtain ⟨j, hj, e⟩ := up_n (y >>> (9 &&& 31)) (show 0 < 99 by omega) (by omega)
  have e' : up_ (y >>> (9 &&& 31)) 99 = nI j := e
  have u : upb 99 = true := pu_upb (a := 99) (by omega) (by omega)
  refine (a_earn h hB hg (show 1 ≤ 1 + j by omega) (show 1 + j ≤ 99 by omega)).eq (fun O => ?_)
  unfold f_L_act_b247
  rw [u, pu_gd, pu_nm, e', bnd3_id, pu_i1, nI_add]
theorem m_pay (h : Inv B n l K) (hB : 360 * B < 2 ^ 30) {g : Nat} (hg : g < n) : AP B S K (fun O => bnd3 (f_X5_pay O K (nI g)) (fun r2 O3 K4 => some (r2, O3, K4))) := (a_pay h hB hg).eq (fun O => bnd3_id _)
theorem m_283 (h : Inv B n l K) (hB : 360 * B < 2 ^ 30) {a b : Nat} (ha : a < n) (hb : b < n) : AP B S K (fun O => f_L_act_b283 O K (nI a) (nI b)) := by
  obtain ⟨r, hr, e, q⟩ := a_lend (S := S) h hB ha hb
  by_cases z : r = 0
  · refine (q z).eq (fun O => ?_)
    unfold f_L_act_b283
    rw [e, pu_bnd, z, if_pos (show nI 0 = 0 from rfl), bnd3_id]
  · refine (m_pay h hB ha).eq (fun O => ?_)
    unfold f_L_act_b283
    rw [e, pu_bnd, if_neg (nz z (by omega))]
theorem m_372 (h : Inv B n l K) (hB : 360 * B < 2 ^ 30) {a : Nat} (ha : a < n) : AP B S K (fun O => f_L_act_b372 O K (nI a)) := by
  obtain ⟨r, hr, e, q⟩ := a_mask (S := S) h hB ha
  have e' : f_X5_whyNot K (nI a) 1 = some (nI r) := e
  by_cases z : r = 0
  · refine (q z).eq (fun O => ?_)
    unfold f_L_act_b372
    rw [e', pu_bnd, z, if_pos (show nI 0 = 0 from rfl), bnd3_id]
  · refine (m_pay h hB ha).eq (fun O => ?_)
    unfold f_L_act_b372
    rw [e', pu_bnd, if_neg (nz z (by omega))]
theorem m_512 (h : Inv B n l K) (hB : 360 * B < 2 ^ 30 - 360) {a c : Nat} (ha : a < n) (hc : c < 3) : AP B S K (fun O => f_L_act_b512 O K (nI c) (nI a)) := by
  have ln := e_line h.1 hc
  have lc := h.1.l.2.2.1 c hc
  by_cases z : l c = 0
  · refine (m_pay h (by omega) ha).eq (fun O => ?_)
    unfold f_L_act_b512
    rw [ln, pu_bnd, z, if_pos (show nI 0 ≤ 0 from Int32.le_refl _)]
  · refine (a_open h hB hc (by omega)).eq (fun O => ?_)
    unfold f_L_act_b512
    rw [ln, pu_bnd, if_neg (show ¬ nI (l c) ≤ 0 from nI_ge (a := 0) (b := l c) (by omega) (by omega)), bnd3_id]
theorem m_set (h : Inv B n l K) (hB : 360 * B < 2 ^ 30) {i : Nat} (hi : i < 6) (y : Int32) : AP B S K (fun O => f_L_act_b445 O K y (nI i) (nI (stMost i))) := by
  have go : stLeast i < stMost i + 1 → stMost i + 1 ≤ 100 → AP B S K (fun O => f_L_act_b464 O K y (nI i) (nI (stMost i)) (nI (stLeast i))) := by
    intro h0 h1
    obtain ⟨j, hj, e⟩ := up_n (y >>> (3 &&& 31)) (show 0 < stMost i + 1 - stLeast i by omega) (by omega)
    refine (a_set h hB hi (show stLeast i ≤ stLeast i + j by omega) (show stLeast i + j ≤ stMost i by omega)).eq (fun O => ?_)
    unfold f_L_act_b464
    rw [pu_i1, nI_add, pk_sub (by omega), pu_upb (by omega) (by omega), pu_gd, pu_nm, e, bnd3_id, nI_add]
  have bd : stLeast i < stMost i + 1 ∧ stMost i + 1 ≤ 100 := by
    rcases (show i = 0 ∨ i = 1 ∨ i = 2 ∨ i = 3 ∨ i = 4 ∨ i = 5 by omega) with e | e | e | e | e | e <;> subst e <;> decide
  refine (go bd.1 bd.2).eq (fun O => ?_)
  unfold f_L_act_b445
  by_cases z : i = 3 ∨ i = 4
  · have w : stLeast i = 1 := by
      rcases z with z | z <;> subst z <;> rfl
    rw [w]
    rcases z with z | z <;> subst z
    · rw [if_pos (show nI 3 = 3 from rfl)]
      rfl
    · rw [if_neg (show ¬ nI 4 = 3 from by decide), if_pos (show nI 4 = 4 from rfl)]
      rfl
  · have w : stLeast i = 0 := by
      unfold stLeast
      rw [if_neg (by omega), if_neg (by omega)]
    rw [w, if_neg (show ¬ nI i = 3 from fun q => z (Or.inl (pu_eqE (b := 3) (by omega) (by omega) q))), if_neg (show ¬ nI i = 4 from fun q => z (Or.inr (pu_eqE (b := 4) (by omega) (by omega) q)))]
    rfl
theorem m_back (h : Inv B n l K) (hB : 360 * B < 2 ^ 30) {a : Nat} (ha : a < n) (y0 : Int32) (hy : y0 = 0 ∨ (y0 = 1 ∧ ∃ o : Nat, o < n ∧ K 4 a = nI o ∧ K 7 a = nI 0 ∧ K 7 o = nI 0)) : AP B S K (fun O => f_L_act_b349 O K (nI a) y0) := by
  rcases hy with hy | ⟨hy, o, ho, h4, h7, h7o⟩ <;> subst hy
  · refine (m_pay h hB ha).eq (fun O => ?_)
    unfold f_L_act_b349
    rw [if_pos rfl]
  · refine (a_back h ha ho h4 h7 h7o).eq (fun O => ?_)
    unfold f_L_act_b349
    rw [if_neg (show ¬ (1 : Int32) = 0 from by decide), bnd3_id]
theorem m_228q (h : Inv B n l K) (hS : SI B S) (hB : 360 * B < 2 ^ 30 - 360) {a b c : Nat} (ha : a < n) (hb : b < n) (hc : c < 3) (x y : Int32) (y0 : Int32) (hy : y0 = 0 ∨ (y0 = 1 ∧ wc K a = nI a ∧ K 7 a = nI 0 ∧ gx K a = mI)) : AP B S K (fun O => f_L_act_b228 O K y (nI n) (nI a) y0) := by
  have hn := h.1.n10
  have hB2 : 360 * B < 2 ^ 30 := by omega
  rcases hy with z | ⟨z, w1, w2, w3⟩
  · refine (m_earn h hB2 ha y).eq (fun O => ?_)
    unfold f_L_act_b228
    rw [if_pos z]
  · by_cases q : n ≤ 3
    · refine (m_earn h hB2 ha y).eq (fun O => ?_)
      unfold f_L_act_b228
      rw [z, if_neg (show ¬ (1 : Int32) = 0 from by decide), if_pos (show nI n ≤ 3 from nI_le (a := n) (b := 3) q (by omega))]
    · refine (a_leave h hB2 ha w1 w2 w3).eq (fun O => ?_)
      unfold f_L_act_b228
      rw [z, if_neg (show ¬ (1 : Int32) = 0 from by decide), if_neg (show ¬ nI n ≤ 3 from nI_ge (a := 3) (b := n) (by omega) (by omega)), bnd3_id]
theorem m_6q (h : Inv B n l K) (hS : SI B S) (hB : 360 * B < 2 ^ 30 - 360) {a b c : Nat} (ha : a < n) (hb : b < n) (hc : c < 3) (x y : Int32) (y0 : Int32) (hy : y0 = 0 ∨ (y0 = 1 ∧ wc K a = nI a ∧ K 7 a = nI 0 ∧ gx K a = mI)) : AP B S K (fun O => if wc K a < 0 then f_L_act_b348 O K (nI a) else (if wc K a = nI a then f_L_act_b348 O K (nI a) else bnd (f_X5_guest K (nI a) 7) (fun r6 => bnd (f_X5_guest K (wc K a) 7) (fun r7 => (if (r6 + r7) = 0 then f_L_act_b349 O K (nI a) 1 else f_L_act_b348 O K (nI a)))))) := by
  have hn := h.1.n10
  have hB2 : 360 * B < 2 ^ 30 := by omega
  have p0 : AP B S K (fun O => f_L_act_b348 O K (nI a)) := m_back h hB2 ha 0 (Or.inl rfl)
  rcases wc_three h.1 ha with ⟨q1, q2, q3⟩ | ⟨q1, o, o1, o2, o3, o4, o5⟩ | ⟨o, o1, o2, o3, o4, o5⟩
  · rw [q3]
    refine p0.eq (fun O => ?_)
    rw [if_neg (show ¬ nI a < 0 from nI_pos (by omega)), if_pos rfl]
  · rw [o5]
    refine p0.eq (fun O => ?_)
    rw [if_pos (show mI < 0 from by decide)]
  · rw [o5]
    have ga := (e_guest h.1 ha).2.2.2.2.2.2.2.1
    have go := (e_guest h.1 o1).2.2.2.2.2.2.2.1
    obtain ⟨va, wa, ea⟩ := (h.1.g a ha).2.2.2.2.2
    obtain ⟨vo, wo, eo⟩ := (h.1.g o o1).2.2.2.2.2
    have ga' : f_X5_guest K (nI a) 7 = some (nI va) := by rw [← ea]; exact ga
    have go' : f_X5_guest K (nI o) 7 = some (nI vo) := by rw [← eo]; exact go
    by_cases z : va + vo = 0
    · have z1 : va = 0 := by omega
      have z2 : vo = 0 := by omega
      refine (m_back h hB2 ha 1 (Or.inr ⟨rfl, o, o1, o3, by rw [ea, z1], by rw [eo, z2]⟩)).eq (fun O => ?_)
      rw [if_neg (show ¬ nI o < 0 from nI_pos (by omega)), if_neg (fun q => o2 (pu_eqE (by omega) (by omega) q)), ga', pu_bnd, go', pu_bnd, nI_add, z, if_pos (show nI 0 = 0 from rfl)]
    · refine p0.eq (fun O => ?_)
      rw [if_neg (show ¬ nI o < 0 from nI_pos (by omega)), if_neg (fun q => o2 (pu_eqE (by omega) (by omega) q)), ga', pu_bnd, go', pu_bnd, nI_add, if_neg (nz z (by omega))]
theorem m_10q (h : Inv B n l K) (hS : SI B S) (hB : 360 * B < 2 ^ 30 - 360) {a b c : Nat} (ha : a < n) (hb : b < n) (hc : c < 3) (x y : Int32) (y0 : Int32) (hy : y0 = 0 ∨ (y0 = 1 ∧ wc K a = nI a ∧ K 7 a = nI 0 ∧ gx K a = mI)) : AP B S K (fun O => gd (upb 6) (nm (up_ y 6) (fun r11 => (if r11 = 0 then f_L_act_b445 O K y r11 20 else (if r11 = 1 then f_L_act_b445 O K y r11 10 else (if r11 = 5 then f_L_act_b445 O K y r11 99 else f_L_act_b445 O K y r11 9)))))) := by
  have hn := h.1.n10
  have hB2 : 360 * B < 2 ^ 30 := by omega
  obtain ⟨i, hi, e6⟩ := up_n y (show 0 < 6 by omega) (by omega)
  have e6' : up_ y 6 = nI i := e6
  have u6 : upb 6 = true := pu_upb (a := 6) (by omega) (by omega)
  refine (m_set h hB2 hi y).eq (fun O => ?_)
  rw [u6, pu_gd, pu_nm, e6']
  by_cases q0 : i = 0
  · subst q0
    rw [if_pos (show nI 0 = 0 from rfl)]
    exact congrArg (f_L_act_b445 O K y (nI 0)) (show (20 : Int32) = nI (stMost 0) from rfl)
  by_cases q1 : i = 1
  · subst q1
    rw [if_neg (show ¬ nI 1 = 0 from by decide), if_pos (show nI 1 = 1 from rfl)]
    exact congrArg (f_L_act_b445 O K y (nI 1)) (show (10 : Int32) = nI (stMost 1) from rfl)
  by_cases q2 : i = 2
  · subst q2
    rw [if_neg (show ¬ nI 2 = 0 from by decide), if_neg (show ¬ nI 2 = 1 from by decide), if_neg (show ¬ nI 2 = 5 from by decide)]
    exact congrArg (f_L_act_b445 O K y (nI 2)) (show (9 : Int32) = nI (stMost 2) from rfl)
  by_cases q3 : i = 3
  · subst q3
    rw [if_neg (show ¬ nI 3 = 0 from by decide), if_neg (show ¬ nI 3 = 1 from by decide), if_neg (show ¬ nI 3 = 5 from by decide)]
    exact congrArg (f_L_act_b445 O K y (nI 3)) (show (9 : Int32) = nI (stMost 3) from rfl)
  by_cases q4 : i = 4
  · subst q4
    rw [if_neg (show ¬ nI 4 = 0 from by decide), if_neg (show ¬ nI 4 = 1 from by decide), if_neg (show ¬ nI 4 = 5 from by decide)]
    exact congrArg (f_L_act_b445 O K y (nI 4)) (show (9 : Int32) = nI (stMost 4) from rfl)
  by_cases q5 : i = 5
  · subst q5
    rw [if_neg (show ¬ nI 5 = 0 from by decide), if_neg (show ¬ nI 5 = 1 from by decide), if_pos (show nI 5 = 5 from rfl)]
    exact congrArg (f_L_act_b445 O K y (nI 5)) (show (99 : Int32) = nI (stMost 5) from rfl)
  omega
theorem m_15q (h : Inv B n l K) (hS : SI B S) (hB : 360 * B < 2 ^ 30 - 360) {a b c : Nat} (ha : a < n) (hb : b < n) (hc : c < 3) (x y : Int32) (y0 : Int32) (hy : y0 = 0 ∨ (y0 = 1 ∧ wc K a = nI a ∧ K 7 a = nI 0 ∧ gx K a = mI)) : AP B S K (fun O => bnd (f_X5_whyNot K (nI a) 0) (fun r18 => (if r18 = 0 then bnd3 (f_X5_queue O K (nI a) (nI c)) (fun r26 O27 K28 => some (r26, O27, K28)) else bnd (f_X5_line K (nI c)) (fun r19 => (if r19 ≤ 0 then bnd3 (f_X5_night O K) (fun r20 O21 K22 => some (r20, O21, K22)) else bnd3 (f_X5_open O K (nI c)) (fun r23 O24 K25 => some (r23, O24, K25))))))) := by
  have hn := h.1.n10
  have hB2 : 360 * B < 2 ^ 30 := by omega
  obtain ⟨r, hr, er, q⟩ := a_queue (S := S) h hB2 ha hc
  have er' : f_X5_whyNot K (nI a) 0 = some (nI r) := er
  have ln := e_line h.1 hc
  have lc := h.1.l.2.2.1 c hc
  by_cases z : r = 0
  · refine (q z).eq (fun O => ?_)
    rw [er', pu_bnd, z, if_pos (show nI 0 = 0 from rfl), bnd3_id]
  · by_cases z2 : l c = 0
    · refine (a_night h hB2).eq (fun O => ?_)
      rw [er', pu_bnd, if_neg (nz z (by omega)), ln, pu_bnd, z2, if_pos (show nI 0 ≤ 0 from Int32.le_refl _), bnd3_id]
    · refine (a_open h hB hc (by omega)).eq (fun O => ?_)
      rw [er', pu_bnd, if_neg (nz z (by omega)), ln, pu_bnd, if_neg (show ¬ nI (l c) ≤ 0 from nI_ge (a := 0) (b := l c) (by omega) (by omega)), bnd3_id]
theorem m_11q (h : Inv B n l K) (hS : SI B S) (hB : 360 * B < 2 ^ 30 - 360) {a b c : Nat} (ha : a < n) (hb : b < n) (hc : c < 3) (x y : Int32) (y0 : Int32) (hy : y0 = 0 ∨ (y0 = 1 ∧ wc K a = nI a ∧ K 7 a = nI 0 ∧ gx K a = mI)) : AP B S K (fun O => (if ((y >>> (12 &&& 31)) &&& 3) = 0 then bnd3 (f_X5_restore O K) (fun r15 O16 K17 => some (r15, O16, K17)) else bnd3 (f_X5_pay O K (nI a)) (fun r12 O13 K14 => some (r12, O13, K14)))) := by
  have hn := h.1.n10
  have hB2 : 360 * B < 2 ^ 30 := by omega
  by_cases z : ((y >>> (12 &&& 31)) &&& 3) = 0
  · refine (a_restore hS hB2).eq (fun O => ?_)
    rw [if_pos z, bnd3_id]
  · refine (m_pay h hB2 ha).eq (fun O => ?_)
    rw [if_neg z]
theorem m_147 (h : Inv B n l K) (hS : SI B S) (hB : 360 * B < 2 ^ 30 - 360) {a b c : Nat} (ha : a < n) (hb : b < n) (hc : c < 3) (x y : Int32) (y0 : Int32) (hy : y0 = 0 ∨ (y0 = 1 ∧ wc K a = nI a ∧ K 7 a = nI 0 ∧ gx K a = mI)) : AP B S K (fun O => f_L_act_b147 O K x y (nI n) (nI c) (nI a) (nI b) (wc K a) y0) := by
  have hn := h.1.n10
  have hB2 : 360 * B < 2 ^ 30 := by omega
  obtain ⟨j, hj, e⟩ := up_n x (show 0 < 20 by omega) (by omega)
  have e' : up_ x 20 = nI j := e
  have u20 : upb 20 = true := pu_upb (a := 20) (by omega) (by omega)
  have ne : ∀ k : Nat, k < 20 → j ≠ k → ¬ nI j = nI k := fun k hk hne q => hne (pu_eqE (by omega) (by omega) q)
  have b228 := m_228q h hS hB ha hb hc x y y0 hy
  have b6 := m_6q h hS hB ha hb hc x y y0 hy
  have b10 := m_10q h hS hB ha hb hc x y y0 hy
  have b15 := m_15q h hS hB ha hb hc x y y0 hy
  have b11 := m_11q h hS hB ha hb hc x y y0 hy
  have b9 : AP B S K (fun O => bnd3 (f_X5_night O K) (fun r8 O9 K10 => some (r8, O9, K10))) := (a_night h hB2).eq (fun O => bnd3_id _)
  by_cases c0 : j = 0
  · refine b228.eq (fun O => ?_)
    unfold f_L_act_b147
    rw [u20, pu_gd, pu_nm, e', if_pos (show nI j = 0 from by rw [c0]; rfl)]
  have n0 : ¬ nI j = 0 := ne 0 (by omega) c0
  by_cases c1 : j = 1
  · refine b228.eq (fun O => ?_)
    unfold f_L_act_b147
    rw [u20, pu_gd, pu_nm, e', if_neg n0, if_pos (show nI j = 1 from by rw [c1]; rfl)]
  have n1 : ¬ nI j = 1 := ne 1 (by omega) c1
  by_cases c2 : j = 2
  · refine (m_earn h hB2 ha y).eq (fun O => ?_)
    unfold f_L_act_b147
    rw [u20, pu_gd, pu_nm, e', if_neg n0, if_neg n1, if_pos (show nI j = 2 from by rw [c2]; rfl)]
    rfl
  have n2 : ¬ nI j = 2 := ne 2 (by omega) c2
  by_cases c3 : j = 3
  · refine (m_283 h hB2 ha hb).eq (fun O => ?_)
    unfold f_L_act_b147
    rw [u20, pu_gd, pu_nm, e', if_neg n0, if_neg n1, if_neg n2, if_pos (show nI j = 3 from by rw [c3]; rfl)]
  have n3 : ¬ nI j = 3 := ne 3 (by omega) c3
  by_cases c4 : j = 4
  · refine (m_283 h hB2 ha hb).eq (fun O => ?_)
    unfold f_L_act_b147
    rw [u20, pu_gd, pu_nm, e', if_neg n0, if_neg n1, if_neg n2, if_neg n3, if_pos (show nI j = 4 from by rw [c4]; rfl)]
  have n4 : ¬ nI j = 4 := ne 4 (by omega) c4
  by_cases c5 : j = 5
  · refine (m_283 h hB2 ha hb).eq (fun O => ?_)
    unfold f_L_act_b147
    rw [u20, pu_gd, pu_nm, e', if_neg n0, if_neg n1, if_neg n2, if_neg n3, if_neg n4, if_pos (show nI j = 5 from by rw [c5]; rfl)]
  have n5 : ¬ nI j = 5 := ne 5 (by omega) c5
  by_cases c6 : j = 6
  · refine b6.eq (fun O => ?_)
    unfold f_L_act_b147
    rw [u20, pu_gd, pu_nm, e', if_neg n0, if_neg n1, if_neg n2, if_neg n3, if_neg n4, if_neg n5, if_pos (show nI j = 6 from by rw [c6]; rfl)]
  have n6 : ¬ nI j = 6 := ne 6 (by omega) c6
  by_cases c7 : j = 7
  · refine (m_372 h hB2 ha).eq (fun O => ?_)
    unfold f_L_act_b147
    rw [u20, pu_gd, pu_nm, e', if_neg n0, if_neg n1, if_neg n2, if_neg n3, if_neg n4, if_neg n5, if_neg n6, if_pos (show nI j = 7 from by rw [c7]; rfl)]
  have n7 : ¬ nI j = 7 := ne 7 (by omega) c7
  by_cases c8 : j = 8
  · refine (m_372 h hB2 ha).eq (fun O => ?_)
    unfold f_L_act_b147
    rw [u20, pu_gd, pu_nm, e', if_neg n0, if_neg n1, if_neg n2, if_neg n3, if_neg n4, if_neg n5, if_neg n6, if_neg n7, if_pos (show nI j = 8 from by rw [c8]; rfl)]
  have n8 : ¬ nI j = 8 := ne 8 (by omega) c8
  by_cases c9 : j = 9
  · refine b9.eq (fun O => ?_)
    unfold f_L_act_b147
    rw [u20, pu_gd, pu_nm, e', if_neg n0, if_neg n1, if_neg n2, if_neg n3, if_neg n4, if_neg n5, if_neg n6, if_neg n7, if_neg n8, if_pos (show nI j = 9 from by rw [c9]; rfl)]
  have n9 : ¬ nI j = 9 := ne 9 (by omega) c9
  by_cases c10 : j = 10
  · refine b10.eq (fun O => ?_)
    unfold f_L_act_b147
    rw [u20, pu_gd, pu_nm, e', if_neg n0, if_neg n1, if_neg n2, if_neg n3, if_neg n4, if_neg n5, if_neg n6, if_neg n7, if_neg n8, if_neg n9, if_pos (show nI j = 10 from by rw [c10]; rfl)]
  have n10 : ¬ nI j = 10 := ne 10 (by omega) c10
  by_cases c11 : j = 11
  · refine b11.eq (fun O => ?_)
    unfold f_L_act_b147
    rw [u20, pu_gd, pu_nm, e', if_neg n0, if_neg n1, if_neg n2, if_neg n3, if_neg n4, if_neg n5, if_neg n6, if_neg n7, if_neg n8, if_neg n9, if_neg n10, if_pos (show nI j = 11 from by rw [c11]; rfl)]
  have n11 : ¬ nI j = 11 := ne 11 (by omega) c11
  by_cases c12 : j = 12
  · refine (m_512 h hB ha hc).eq (fun O => ?_)
    unfold f_L_act_b147
    rw [u20, pu_gd, pu_nm, e', if_neg n0, if_neg n1, if_neg n2, if_neg n3, if_neg n4, if_neg n5, if_neg n6, if_neg n7, if_neg n8, if_neg n9, if_neg n10, if_neg n11, if_pos (show nI j = 12 from by rw [c12]; rfl)]
  have n12 : ¬ nI j = 12 := ne 12 (by omega) c12
  by_cases c13 : j = 13
  · refine (m_512 h hB ha hc).eq (fun O => ?_)
    unfold f_L_act_b147
    rw [u20, pu_gd, pu_nm, e', if_neg n0, if_neg n1, if_neg n2, if_neg n3, if_neg n4, if_neg n5, if_neg n6, if_neg n7, if_neg n8, if_neg n9, if_neg n10, if_neg n11, if_neg n12, if_pos (show nI j = 13 from by rw [c13]; rfl)]
  have n13 : ¬ nI j = 13 := ne 13 (by omega) c13
  by_cases c14 : j = 14
  · refine (m_512 h hB ha hc).eq (fun O => ?_)
    unfold f_L_act_b147
    rw [u20, pu_gd, pu_nm, e', if_neg n0, if_neg n1, if_neg n2, if_neg n3, if_neg n4, if_neg n5, if_neg n6, if_neg n7, if_neg n8, if_neg n9, if_neg n10, if_neg n11, if_neg n12, if_neg n13, if_pos (show nI j = 14 from by rw [c14]; rfl)]
  have n14 : ¬ nI j = 14 := ne 14 (by omega) c14
  refine b15.eq (fun O => ?_)
  unfold f_L_act_b147
  rw [u20, pu_gd, pu_nm, e', if_neg n0, if_neg n1, if_neg n2, if_neg n3, if_neg n4, if_neg n5, if_neg n6, if_neg n7, if_neg n8, if_neg n9, if_neg n10, if_neg n11, if_neg n12, if_neg n13, if_neg n14]
theorem m_77 (h : Inv B n l K) (hS : SI B S) (hB : 360 * B < 2 ^ 30 - 360) (hn0 : 0 < n) {c : Nat} (hc : c < 3) (x y : Int32) : AP B S K (fun O => f_L_act_b77 O K x y (nI n) (nI c)) := by
  have hn := h.1.n10
  obtain ⟨a, ha, ea⟩ := up_n y hn0 (show n < 2 ^ 31 by omega)
  obtain ⟨b, hb, eb⟩ := up_n (y >>> (4 &&& 31)) hn0 (show n < 2 ^ 31 by omega)
  obtain ⟨-, -, -, -, g4, -, -, g7, g8, -, g10⟩ := e_guest h.1 ha
  have g4' : f_X5_guest K (nI a) 4 = some (wc K a) := g4
  have g7' : f_X5_guest K (nI a) 7 = some (K 7 a) := g7
  have g8' : f_X5_guest K (nI a) 8 = some (gx K a) := g8
  have g10' : f_X5_guest K (nI a) 10 = some (K 5 a) := g10
  have un := pu_upb (a := n) hn0 (by omega)
  have p0 : AP B S K (fun O => f_L_act_b146 O K x y (nI n) (nI c) (nI a) (nI b) (wc K a)) := m_147 h hS hB ha hb hc x y 0 (Or.inl rfl)
  by_cases c1 : wc K a = nI a
  · by_cases c2 : 0 ≤ K 5 a
    · refine p0.eq (fun O => ?_)
      unfold f_L_act_b77
      rw [un, pu_gd, pu_nm, ea, pu_gd, pu_nm, eb, g4', pu_bnd, if_pos c1, g10', pu_bnd, if_pos c2]
    · by_cases c3 : K 7 a = 0
      · by_cases c4 : 0 ≤ gx K a
        · refine p0.eq (fun O => ?_)
          unfold f_L_act_b77
          rw [un, pu_gd, pu_nm, ea, pu_gd, pu_nm, eb, g4', pu_bnd, if_pos c1, g10', pu_bnd, if_neg c2, g7', pu_bnd, if_pos c3, g8', pu_bnd, if_pos c4]
        · have h8 : gx K a = mI := by
            rcases (e_gate h.1.l hn ha).2.2 with ⟨-, w, -⟩ | ⟨d, k, d1, d2, d3, d4, -⟩
            · exact w
            · rw [d4] at c4
              exact absurd (show (0 : Int32) ≤ nI d from nI_le (a := 0) (b := d) (by omega) (by omega)) c4
          refine (m_147 h hS hB ha hb hc x y 1 (Or.inr ⟨rfl, c1, c3, h8⟩)).eq (fun O => ?_)
          unfold f_L_act_b77
          rw [un, pu_gd, pu_nm, ea, pu_gd, pu_nm, eb, g4', pu_bnd, if_pos c1, g10', pu_bnd, if_neg c2, g7', pu_bnd, if_pos c3, g8', pu_bnd, if_neg c4]
      · refine p0.eq (fun O => ?_)
        unfold f_L_act_b77
        rw [un, pu_gd, pu_nm, ea, pu_gd, pu_nm, eb, g4', pu_bnd, if_pos c1, g10', pu_bnd, if_neg c2, g7', pu_bnd, if_neg c3]
  · refine p0.eq (fun O => ?_)
    unfold f_L_act_b77
    rw [un, pu_gd, pu_nm, ea, pu_gd, pu_nm, eb, g4', pu_bnd, if_neg c1]
theorem p_act (h : Inv B n l K) (hS : SI B S) (hB : 360 * B < 2 ^ 30 - 360) (x y : Int32) : AP B S K (fun O => f_L_act O K x y) := by
  have hn := h.1.n10
  have c1 : ∀ O, f_X5_count O K 1 = some (nI n) := fun O => (e_count O h.1).2.1
  obtain ⟨c, hc, ec⟩ := up_n (y >>> (8 &&& 31)) (show 0 < 3 by omega) (by omega)
  obtain ⟨j, hj, ej⟩ := up_n x (show 0 < 20 by omega) (by omega)
  have ec' : up_ (y >>> (8 &&& 31)) 3 = nI c := ec
  have ej' : up_ x 20 = nI j := ej
  have u3 : upb 3 = true := pu_upb (a := 3) (by omega) (by omega)
  have u20 : upb 20 = true := pu_upb (a := 20) (by omega) (by omega)
  by_cases z : n < 3
  · refine (m_36 h (by omega) y).eq (fun O => ?_)
    unfold f_L_act
    rw [c1 O, pu_bnd, u3, pu_gd, pu_nm, ec', if_pos (show nI n < 3 from nI_lt (a := n) (b := 3) z (by omega))]
  · have z' : ¬ nI n < 3 := nI_nlt (a := n) (b := 3) (by omega) (by omega)
    by_cases z2 : j = 0
    · by_cases z3 : 10 ≤ n
      · refine (m_77 h hS hB (by omega) hc x y).eq (fun O => ?_)
        unfold f_L_act
        rw [c1 O, pu_bnd, u3, pu_gd, pu_nm, ec', if_neg z', u20, pu_gd, pu_nm, ej', z2, if_pos (show nI 0 = 0 from rfl), if_pos (show 10 ≤ nI n from nI_le (a := 10) (b := n) z3 (by omega))]
      · refine (m_36 h (by omega) y).eq (fun O => ?_)
        unfold f_L_act
        rw [c1 O, pu_bnd, u3, pu_gd, pu_nm, ec', if_neg z', u20, pu_gd, pu_nm, ej', z2, if_pos (show nI 0 = 0 from rfl), if_neg (show ¬ 10 ≤ nI n from nI_ge (a := n) (b := 10) (by omega) (by omega))]
    · refine (m_77 h hS hB (by omega) hc x y).eq (fun O => ?_)
      unfold f_L_act
      rw [c1 O, pu_bnd, u3, pu_gd, pu_nm, ec', if_neg z', u20, pu_gd, pu_nm, ej', if_neg (nz z2 (by omega))]
end ACM
