/-! the pure part: lines, a guest who comes, a guest who leaves -/
theorem P_len0 {B n : Nat} {l : Nat → Nat} {K : RK} {w : Nat → Int32} (h : Rel B n l K w) {c : Nat} (hc : c < 3) : Rel B n (fun q => if q = c then 0 else l q) (upR K 9 (upd (K 9) c (nI 0))) (upd w (86 + 11 * c) (nI 0)) := by
  obtain ⟨hS, hG, hC, ⟨l1, l2, l3, l4⟩, hs, aG, aL⟩ := h
  have hn : n ≤ 10 := hS.1
  have lt : ∀ q : Nat, (if q = c then 0 else l q) ≤ l q := by
    intro q
    split <;> omega
  refine ⟨hS, hG, hC, ⟨?_, ?_, ?_, ?_⟩, ?_, ?_, ?_⟩
  · intro d hd
    show upR K 9 (upd (K 9) c (nI 0)) 9 d = nI (if d = c then 0 else l d)
    rw [pu_Rs]
    by_cases e : d = c
    · rw [if_pos e, pu_us e]
    · rw [if_neg e, pu_un e]
      exact l1 d hd
  · intro d hd k hk
    exact l2 d hd k (Nat.lt_of_lt_of_le hk (lt d))
  · intro d hd
    exact Nat.le_trans (lt d) (l3 d hd)
  · intro d hd k hk d2 hd2 k2 hk2
    exact l4 d hd k (Nat.lt_of_lt_of_le hk (lt d)) d2 hd2 k2 (Nat.lt_of_lt_of_le hk2 (lt d2))
  · unfold AgS at hs ⊢
    simp (disch := omega) only [pu_Rn, pu_un]
    exact hs
  · intro j hj0
    have hk := aG j hj0
    simp (disch := omega) only [pu_un]
    exact hk
  · intro d hd
    have := l3 d hd
    refine ⟨?_, fun k hk => ?_⟩
    · show upd w (86 + 11 * c) (nI 0) (86 + 11 * d) = nI (if d = c then 0 else l d)
      by_cases e : d = c
      · rw [if_pos e, pu_us (by omega)]
      · rw [if_neg e, pu_un (by omega)]
        exact (aL d hd).1
    · have hk2 := Nat.lt_of_lt_of_le hk (lt d)
      rw [pu_un (by omega)]
      exact (aL d hd).2 k hk2
theorem P_enter {B n : Nat} {l : Nat → Nat} {K : RK} {w : Nat → Int32} (h : Rel B n l K w) {c g : Nat} (hc : c < 3) (hg : g < n) (hno : nInL l K g) : l c < 10 ∧ Rel B n (fun q => if q = c then l c + 1 else l q) (upR (upR K 8 (upd (K 8) (c * 10 + l c) (nI g))) 9 (upd (K 9) c (nI (l c + 1)))) (upd (upd w (86 + 11 * c) (nI (l c + 1))) (86 + 11 * c + (l c + 1)) (nI g)) := by
  have hlen : l c + 1 ≤ n := by
    refine pigeon n (l c + 1) (fun k => if k = l c then g else (K 8 (c * 10 + k)).toNatClampNeg) ?_ ?_
    · intro k hk
      show (if k = l c then g else (K 8 (c * 10 + k)).toNatClampNeg) < n
      by_cases e : k = l c
      · rw [if_pos e]
        exact hg
      · rw [if_neg e]
        obtain ⟨x, hx, e2⟩ := h.2.2.2.1.2.1 c hc k (by omega)
        have hn := h.n10
        rw [e2, nI_clamp (by omega)]
        exact hx
    · intro i j hi hj e
      have hn := h.n10
      change (if i = l c then g else (K 8 (c * 10 + i)).toNatClampNeg) = (if j = l c then g else (K 8 (c * 10 + j)).toNatClampNeg) at e
      by_cases e1 : i = l c
      · by_cases e2 : j = l c
        · omega
        · obtain ⟨x, hx, e3⟩ := h.2.2.2.1.2.1 c hc j (by omega)
          rw [if_pos e1, if_neg e2, e3, nI_clamp (by omega)] at e
          exact absurd (by rw [e3, e]) (hno c hc j (by omega))
      · obtain ⟨x, hx, e3⟩ := h.2.2.2.1.2.1 c hc i (by omega)
        by_cases e2 : j = l c
        · rw [if_pos e2, if_neg e1, e3, nI_clamp (by omega)] at e
          exact absurd (by rw [e3, e]) (hno c hc i (by omega))
        · obtain ⟨y, hy, e4⟩ := h.2.2.2.1.2.1 c hc j (by omega)
          rw [if_neg e1, if_neg e2, e3, e4, nI_clamp (by omega), nI_clamp (by omega)] at e
          exact (h.2.2.2.1.2.2.2 c hc i (by omega) c hc j (by omega) (by rw [e3, e4, e])).2
  obtain ⟨hS, hG, hC, ⟨l1, l2, l3, l4⟩, hs, aG, aL⟩ := h
  have hn : n ≤ 10 := hS.1
  have lc := l3 c hc
  refine ⟨by omega, hS, hG, hC, ⟨?_, ?_, ?_, ?_⟩, ?_, ?_, ?_⟩
  · intro d hd
    show upR (upR K 8 (upd (K 8) (c * 10 + l c) (nI g))) 9 (upd (K 9) c (nI (l c + 1))) 9 d = nI (if d = c then l c + 1 else l d)
    rw [pu_Rs]
    by_cases e : d = c
    · rw [if_pos e, pu_us e]
    · rw [if_neg e, pu_un e]
      exact l1 d hd
  · intro d hd k hk
    change k < (if d = c then l c + 1 else l d) at hk
    have ld := l3 d hd
    simp (disch := omega) only [pu_Rs, pu_Rn]
    by_cases e : d = c
    · subst e
      rw [if_pos rfl] at hk
      by_cases e2 : k = l d
      · exact ⟨g, hg, pu_us (by omega)⟩
      · rw [pu_un (by omega)]
        exact l2 d hd k (by omega)
    · rw [if_neg e] at hk
      rw [pu_un (by omega)]
      exact l2 d hd k hk
  · intro d hd
    show (if d = c then l c + 1 else l d) ≤ 10
    by_cases e : d = c
    · rw [if_pos e]
      omega
    · rw [if_neg e]
      exact l3 d hd
  · have cs : ∀ d : Nat, d < 3 → ∀ k : Nat, k < (if d = c then l c + 1 else l d) → (d = c ∧ k = l c ∧ upd (K 8) (c * 10 + l c) (nI g) (d * 10 + k) = nI g) ∨ (k < l d ∧ upd (K 8) (c * 10 + l c) (nI g) (d * 10 + k) = K 8 (d * 10 + k)) := by
      intro d hd k hk
      have ld := l3 d hd
      by_cases e : d = c
      · rw [if_pos e] at hk
        by_cases e2 : k = l c
        · exact Or.inl ⟨e, e2, pu_us (by rw [e, e2])⟩
        · exact Or.inr ⟨by rw [e]; omega, pu_un (by omega)⟩
      · rw [if_neg e] at hk
        exact Or.inr ⟨hk, pu_un (by omega)⟩
    intro d hd k hk d2 hd2 k2 hk2 e
    simp (disch := omega) only [pu_Rs, pu_Rn] at e
    rcases cs d hd k hk with ⟨q1, q2, q3⟩ | ⟨q1, q3⟩
    · rcases cs d2 hd2 k2 hk2 with ⟨p1, p2, p3⟩ | ⟨p1, p3⟩
      · exact ⟨by rw [q1, p1], by rw [q2, p2]⟩
      · rw [q3, p3] at e
        exact absurd e.symm (hno d2 hd2 k2 p1)
    · rcases cs d2 hd2 k2 hk2 with ⟨p1, p2, p3⟩ | ⟨p1, p3⟩
      · rw [q3, p3] at e
        exact absurd e (hno d hd k q1)
      · rw [q3, p3] at e
        exact l4 d hd k q1 d2 hd2 k2 p1 e
  · unfold AgS at hs ⊢
    simp (disch := omega) only [pu_Rn, pu_un]
    exact hs
  · intro j hj0
    have hk := aG j hj0
    simp (disch := omega) only [pu_un]
    exact hk
  · intro d hd
    have ld := l3 d hd
    refine ⟨?_, fun k hk => ?_⟩
    · show upd (upd w (86 + 11 * c) (nI (l c + 1))) (86 + 11 * c + (l c + 1)) (nI g) (86 + 11 * d) = nI (if d = c then l c + 1 else l d)
      by_cases e : d = c
      · rw [if_pos e, pu_un (by omega), pu_us (by omega)]
      · rw [if_neg e, pu_un (by omega), pu_un (by omega)]
        exact (aL d hd).1
    · change k < (if d = c then l c + 1 else l d) at hk
      simp (disch := omega) only [pu_Rs, pu_Rn]
      by_cases e : d = c
      · subst e
        rw [if_pos rfl] at hk
        by_cases e2 : k = l d
        · rw [pu_us (by omega), pu_us (by omega)]
        · rw [pu_un (by omega), pu_un (by omega), pu_un (by omega)]
          exact (aL d hd).2 k (by omega)
      · rw [if_neg e] at hk
        rw [pu_un (by omega), pu_un (by omega), pu_un (by omega)]
        exact (aL d hd).2 k hk
theorem P_take {B n : Nat} {l : Nat → Nat} {K : RK} {w : Nat → Int32} (h : Rel B n l K w) {c : Nat} (hc : c < 3) (h0 : 0 < l c) {f : Nat → Int32} {v : Nat → Int32} (hf : ∀ j, f j = if c * 10 ≤ j ∧ j < c * 10 + l c - 1 then K 8 (j + 1) else K 8 j) (hv0 : v (86 + 11 * c) = nI (l c - 1)) (hv : ∀ j, j ≠ 86 + 11 * c → v j = if 86 + 11 * c < j ∧ j < 86 + 11 * c + l c then w (j + 1) else w j) : Rel B n (fun q => if q = c then l c - 1 else l q) (upR (upR K 8 f) 9 (upd (K 9) c (nI (l c - 1)))) v := by
  obtain ⟨hS, hG, hC, ⟨l1, l2, l3, l4⟩, hs, aG, aL⟩ := h
  have hn : n ≤ 10 := hS.1
  have lc := l3 c hc
  have fs : ∀ d : Nat, d < 3 → ∀ k : Nat, k < (if d = c then l c - 1 else l d) → f (d * 10 + k) = K 8 (d * 10 + (if d = c then k + 1 else k)) ∧ (if d = c then k + 1 else k) < l d := by
    intro d hd k hk
    have ld := l3 d hd
    by_cases e : d = c
    · subst e
      rw [if_pos rfl] at hk
      rw [if_pos rfl, hf, if_pos (by omega)]
      exact ⟨by rw [Nat.add_assoc], by omega⟩
    · rw [if_neg e] at hk
      rw [if_neg e, hf, if_neg (by omega)]
      exact ⟨rfl, hk⟩
  refine ⟨hS, hG, hC, ⟨?_, ?_, ?_, ?_⟩, ?_, ?_, ?_⟩
  · intro d hd
    show upR (upR K 8 f) 9 (upd (K 9) c (nI (l c - 1))) 9 d = nI (if d = c then l c - 1 else l d)
    rw [pu_Rs]
    by_cases e : d = c
    · rw [if_pos e, pu_us e]
    · rw [if_neg e, pu_un e]
      exact l1 d hd
  · intro d hd k hk
    obtain ⟨e1, e2⟩ := fs d hd k hk
    show ∃ x : Nat, x < n ∧ f (d * 10 + k) = nI x
    rw [e1]
    exact l2 d hd _ e2
  · intro d hd
    show (if d = c then l c - 1 else l d) ≤ 10
    by_cases e : d = c
    · rw [if_pos e]
      omega
    · rw [if_neg e]
      exact l3 d hd
  · intro d hd k hk d2 hd2 k2 hk2 e
    obtain ⟨e1, e2⟩ := fs d hd k hk
    obtain ⟨e3, e4⟩ := fs d2 hd2 k2 hk2
    change f (d * 10 + k) = f (d2 * 10 + k2) at e
    rw [e1, e3] at e
    obtain ⟨q1, q2⟩ := l4 d hd _ e2 d2 hd2 _ e4 e
    refine ⟨q1, ?_⟩
    rw [q1] at q2
    by_cases q : d2 = c
    · rw [if_pos q, if_pos q] at q2
      omega
    · rw [if_neg q, if_neg q] at q2
      exact q2
  · unfold AgS at hs ⊢
    simp (disch := omega) only [pu_Rn, hv, if_neg]
    exact hs
  · intro j hj0
    have hk := aG j hj0
    simp (disch := omega) only [hv, if_neg]
    exact hk
  · intro d hd
    have ld := l3 d hd
    refine ⟨?_, fun k hk => ?_⟩
    · show v (86 + 11 * d) = nI (if d = c then l c - 1 else l d)
      by_cases e : d = c
      · subst e
        rw [if_pos rfl]
        exact hv0
      · rw [if_neg e, hv _ (by omega), if_neg (by omega)]
        exact (aL d hd).1
    · obtain ⟨e1, e2⟩ := fs d hd k hk
      show v (86 + 11 * d + 1 + k) = f (d * 10 + k)
      rw [e1]
      change k < (if d = c then l c - 1 else l d) at hk
      by_cases e : d = c
      · subst e
        rw [if_pos rfl] at hk e2 ⊢
        rw [hv _ (by omega), if_pos (by omega)]
        exact (aL d hd).2 (k + 1) e2
      · rw [if_neg e] at hk e2 ⊢
        rw [hv _ (by omega), if_neg (by omega)]
        exact (aL d hd).2 k hk
theorem P_come {B n : Nat} {l : Nat → Nat} {K K2 : RK} {w w2 : Nat → Int32} (h : Rel B n l K w) (hn10 : n < 10) {r c p : Nat} (hr : r ≤ 4) (hc : c ≤ 40) (hp : p ≤ 99) (e0 : K2 0 = upd (K 0) n (nI r)) (e1 : K2 1 = upd (K 1) n (nI p)) (e2 : K2 2 = upd (K 2) n (nI 0)) (e3 : K2 3 = upd (K 3) n (nI c)) (e4 : K2 4 = upd (K 4) n mI) (e5 : K2 5 = upd (K 5) n mI) (e6 : K2 6 = upd (K 6) n (nI 0)) (e7 : K2 7 = upd (K 7) n (nI 0)) (e8 : K2 8 = K 8) (e9 : K2 9 = K 9) (e10 : K2 10 = K 10) (e11 : K2 11 = K 11) (e12 : K2 12 0 = nI (n + 1)) (v0 : w2 (16 + 7 * n + 0) = nI r) (v1 : w2 (16 + 7 * n + 1) = nI p) (v2 : w2 (16 + 7 * n + 2) = nI 0) (v3 : w2 (16 + 7 * n + 3) = nI c) (v4 : w2 (16 + 7 * n + 4) = nI n) (v5 : w2 (16 + 7 * n + 5) = nI 0) (v6 : w2 (16 + 7 * n + 6) = nI 0) (vn : w2 1 = nI (n + 1)) (ve : ∀ j, j ≠ 1 → ¬ (16 + 7 * n ≤ j ∧ j < 16 + 7 * n + 7) → w2 j = w j) : Rel B (n + 1) l K2 w2 := by
  obtain ⟨hS, hG, hC, ⟨l1, l2, l3, l4⟩, hs, aG, aL⟩ := h
  have hn : n ≤ 10 := hS.1
  unfold Rel IvS IvG IvC IvL AgS AgG AgL
  rw [e0, e1, e2, e3, e4, e5, e6, e7, e8, e9, e10, e11]
  refine ⟨⟨by omega, e12, hS.2.2⟩, ?_, ?_, ⟨l1, ?_, l3, l4⟩, ?_, ?_, ?_⟩
  · intro j hj
    by_cases e : j = n
    · exact ⟨⟨r, hr, pu_us e⟩, ⟨p, by omega, pu_us e⟩, ⟨0, by omega, pu_us e⟩, ⟨c, hc, pu_us e⟩, ⟨0, by omega, pu_us e⟩, ⟨0, by omega, pu_us e⟩⟩
    · simp (disch := omega) only [pu_un]
      exact hG j (by omega)
  · intro j hj
    by_cases e : j = n
    · exact ⟨Or.inl (pu_us e), Or.inl (pu_us e)⟩
    · rw [pu_un e, pu_un e]
      obtain ⟨q1, q2⟩ := hC j (by omega)
      refine ⟨?_, ?_⟩
      · rcases q1 with q | ⟨o, p1, p2, p3, p4⟩
        · exact Or.inl q
        · exact Or.inr ⟨o, by omega, p2, p3, by rw [pu_un (by omega)]; exact p4⟩
      · rcases q2 with q | ⟨o, p1, p2, p3, p4⟩
        · exact Or.inl q
        · exact Or.inr ⟨o, by omega, p2, p3, by rw [pu_un (by omega)]; exact p4⟩
  · intro d hd k hk
    obtain ⟨x, hx, q⟩ := l2 d hd k hk
    exact ⟨x, by omega, q⟩
  · unfold AgS at hs
    obtain ⟨a0, a1, a2, a3, a4, a5, a6, a7, a8, a9, a10, a11, a12, a13, a14, a15⟩ := hs
    rw [ve 0 (by omega) (by omega), ve 2 (by omega) (by omega), ve 3 (by omega) (by omega), ve 4 (by omega) (by omega), ve 5 (by omega) (by omega), ve 6 (by omega) (by omega), ve 7 (by omega) (by omega), ve 8 (by omega) (by omega), ve 9 (by omega) (by omega), ve 10 (by omega) (by omega), ve 11 (by omega) (by omega), ve 12 (by omega) (by omega), ve 13 (by omega) (by omega), ve 14 (by omega) (by omega), ve 15 (by omega) (by omega)]
    exact ⟨a0, by rw [vn, e12], a2, a3, a4, a5, a6, a7, a8, a9, a10, a11, a12, a13, a14, a15⟩
  · intro j hj
    by_cases e : j = n
    · subst e
      have ew : wc K2 j = nI j := by
        unfold wc
        rw [e4, e5, pu_us rfl, pu_us rfl, if_pos rfl, if_pos rfl]
      rw [ew, v0, v1, v2, v3, v4, v5, v6]
      exact ⟨(pu_us rfl).symm, (pu_us rfl).symm, (pu_us rfl).symm, (pu_us rfl).symm, rfl, (pu_us rfl).symm, (pu_us rfl).symm⟩
    · have ew : wc K2 j = wc K j := by
        unfold wc
        rw [e4, e5, pu_un e, pu_un e]
      rw [ew, ve (16 + 7 * j + 0) (by omega) (by omega), ve (16 + 7 * j + 1) (by omega) (by omega), ve (16 + 7 * j + 2) (by omega) (by omega), ve (16 + 7 * j + 3) (by omega) (by omega), ve (16 + 7 * j + 4) (by omega) (by omega), ve (16 + 7 * j + 5) (by omega) (by omega), ve (16 + 7 * j + 6) (by omega) (by omega)]
      simp (disch := omega) only [pu_un]
      exact aG j (by omega)
  · intro d hd
    refine ⟨?_, fun k hk => ?_⟩
    · rw [ve _ (by omega) (by omega)]
      exact (aL d hd).1
    · rw [ve _ (by omega) (by omega)]
      exact (aL d hd).2 k hk
def sg (g j : Nat) : Nat := if j < g then j else j + 1
def tg (g x : Nat) : Nat := if g < x then x - 1 else x
def nw (g : Nat) (x : Int32) : Int32 := if nI g < x then x - nI 1 else x
theorem nw_nI {g x : Nat} (hg : g < 2 ^ 31) (hx : x < 2 ^ 31) : nw g (nI x) = nI (tg g x) := by
  unfold nw tg
  by_cases h : g < x
  · rw [if_pos (nI_lt h hx), if_pos h, pk_sub (by omega)]
  · rw [if_neg (nI_nlt (by omega) hg), if_neg h]
theorem nw_mI {g : Nat} (hg : g < 2 ^ 31) : nw g mI = mI := by
  unfold nw
  exact if_neg (by rw [pu_nI_lt_mI hg]; exact fun q => q)
theorem tg_sg (g j : Nat) : tg g (sg g j) = j := by
  unfold tg sg
  by_cases h : j < g
  · rw [if_pos h, if_neg (by omega)]
  · rw [if_neg h, if_pos (by omega)]
    omega
theorem sg_tg {g x : Nat} (h : x ≠ g) : sg g (tg g x) = x := by
  unfold tg sg
  by_cases q : g < x
  · rw [if_pos q, if_neg (by omega)]
    omega
  · rw [if_neg q, if_pos (by omega)]
theorem sg_lt {g n j : Nat} (h : j < n - 1) : sg g j < n := by
  unfold sg
  split <;> omega
theorem sg_ne (g j : Nat) : sg g j ≠ g := by
  unfold sg
  split <;> omega
theorem tg_lt {g n x : Nat} (hg : g < n) (h : x ≠ g) (hx : x < n) : tg g x < n - 1 := by
  unfold tg
  split <;> omega
theorem P_leave {B n : Nat} {l : Nat → Nat} {K K2 : RK} {w w2 : Nat → Int32} (h : Rel B n l K w) {g : Nat} (hg : g < n) (o4 : K 4 g = mI) (o5 : K 5 g = mI) (hno : nInL l K g) (e0 : ∀ r, r < 8 → r ≠ 4 → r ≠ 5 → ∀ j, j < n - 1 → K2 r j = K r (sg g j)) (e4 : ∀ j, j < n - 1 → K2 4 j = nw g (K 4 (sg g j))) (e5 : ∀ j, j < n - 1 → K2 5 j = nw g (K 5 (sg g j))) (e8 : ∀ j, j < 30 → K2 8 j = nw g (K 8 j)) (e9 : K2 9 = K 9) (e10 : K2 10 = K 10) (e11 : K2 11 = K 11) (e12 : K2 12 0 = nI (n - 1)) (vn : w2 1 = nI (n - 1)) (ve : ∀ j, j ≠ 1 → j < 16 → w2 j = w j) (vg : ∀ j, j < n - 1 → ∀ q, q < 7 → q ≠ 4 → w2 (16 + 7 * j + q) = w (16 + 7 * sg g j + q)) (v4 : ∀ j, j < n - 1 → w2 (16 + 7 * j + 4) = nw g (w (16 + 7 * sg g j + 4))) (vl : ∀ d, d < 3 → w2 (86 + 11 * d) = w (86 + 11 * d)) (vk : ∀ d, d < 3 → ∀ k, k < 10 → w2 (86 + 11 * d + 1 + k) = nw g (w (86 + 11 * d + 1 + k))) : Rel B (n - 1) l K2 w2 := by
  obtain ⟨hS, hG, hC, ⟨l1, l2, l3, l4⟩, hs, aG, aL⟩ := h
  have hn : n ≤ 10 := hS.1
  have nog4 : ∀ j, j < n → ∀ o, o < n → K 4 j = nI o → o ≠ g := by
    intro j hj o ho q e
    subst e
    have := (hC.ne hn hj q (by omega)).2.2
    rw [o5, pu_mI_nI (by omega)] at this
    exact this
  have nog5 : ∀ j, j < n → ∀ o, o < n → K 5 j = nI o → o ≠ g := by
    intro j hj o ho q e
    subst e
    have := (hC.ne5 hn hj q (by omega)).2.2
    rw [o4, pu_mI_nI (by omega)] at this
    exact this
  have c4 : ∀ j, j < n - 1 → (K2 4 j = mI ∧ K 4 (sg g j) = mI) ∨ ∃ o, o < n ∧ o ≠ g ∧ o ≠ sg g j ∧ K 4 (sg g j) = nI o ∧ K2 4 j = nI (tg g o) ∧ K 5 o = nI (sg g j) := by
    intro j hj
    have hj2 := sg_lt (g := g) hj
    rcases (hC _ hj2).1 with q | ⟨o, p1, p2, p3, p4⟩
    · left
      exact ⟨by rw [e4 j hj, q, nw_mI (by omega)], q⟩
    · right
      exact ⟨o, p1, nog4 _ hj2 o p1 p3, p2, p3, by rw [e4 j hj, p3, nw_nI (by omega) (by omega)], p4⟩
  have c5 : ∀ j, j < n - 1 → (K2 5 j = mI ∧ K 5 (sg g j) = mI) ∨ ∃ o, o < n ∧ o ≠ g ∧ o ≠ sg g j ∧ K 5 (sg g j) = nI o ∧ K2 5 j = nI (tg g o) ∧ K 4 o = nI (sg g j) := by
    intro j hj
    have hj2 := sg_lt (g := g) hj
    rcases (hC _ hj2).2 with q | ⟨o, p1, p2, p3, p4⟩
    · left
      exact ⟨by rw [e5 j hj, q, nw_mI (by omega)], q⟩
    · right
      exact ⟨o, p1, nog5 _ hj2 o p1 p3, p2, p3, by rw [e5 j hj, p3, nw_nI (by omega) (by omega)], p4⟩
  have tne : ∀ o j, o ≠ g → o ≠ sg g j → tg g o ≠ j := by
    intro o j h1 h2 h3
    apply h2
    rw [← h3, sg_tg h1]
  unfold Rel IvS IvG IvC IvL AgS AgG AgL
  rw [e9, e10, e11]
  refine ⟨⟨by omega, e12, hS.2.2⟩, ?_, ?_, ⟨l1, ?_, l3, ?_⟩, ?_, ?_, ?_⟩
  · intro j hj
    rw [e0 0 (by omega) (by omega) (by omega) j hj, e0 1 (by omega) (by omega) (by omega) j hj, e0 2 (by omega) (by omega) (by omega) j hj, e0 3 (by omega) (by omega) (by omega) j hj, e0 6 (by omega) (by omega) (by omega) j hj, e0 7 (by omega) (by omega) (by omega) j hj]
    exact hG _ (sg_lt hj)
  · intro j hj
    have hj2 := sg_lt (g := g) hj
    refine ⟨?_, ?_⟩
    · rcases c4 j hj with ⟨q, -⟩ | ⟨o, p1, p2, p3, p4, p5, p6⟩
      · exact Or.inl q
      · refine Or.inr ⟨tg g o, tg_lt hg p2 p1, tne o j p2 p3, p5, ?_⟩
        rw [e5 _ (tg_lt hg p2 p1), sg_tg p2, p6, nw_nI (by omega) (by omega), tg_sg]
    · rcases c5 j hj with ⟨q, -⟩ | ⟨o, p1, p2, p3, p4, p5, p6⟩
      · exact Or.inl q
      · refine Or.inr ⟨tg g o, tg_lt hg p2 p1, tne o j p2 p3, p5, ?_⟩
        rw [e4 _ (tg_lt hg p2 p1), sg_tg p2, p6, nw_nI (by omega) (by omega), tg_sg]
  · intro d hd k hk
    have := l3 d hd
    obtain ⟨x, hx, q⟩ := l2 d hd k hk
    have hxg : x ≠ g := by
      intro e
      subst e
      exact hno d hd k hk q
    rw [e8 _ (by omega), q, nw_nI (by omega) (by omega)]
    exact ⟨tg g x, tg_lt hg hxg hx, rfl⟩
  · intro d hd k hk d2 hd2 k2 hk2 e
    have b1 := l3 d hd
    have b2 := l3 d2 hd2
    obtain ⟨x, hx, q⟩ := l2 d hd k hk
    obtain ⟨y, hy, q2⟩ := l2 d2 hd2 k2 hk2
    have hxg : x ≠ g := by
      intro e
      subst e
      exact hno d hd k hk q
    have hyg : y ≠ g := by
      intro e
      subst e
      exact hno d2 hd2 k2 hk2 q2
    rw [e8 _ (by omega), e8 _ (by omega), q, q2, nw_nI (by omega) (by omega), nw_nI (by omega) (by omega)] at e
    have t1 := tg_lt hg hxg hx
    have t2 := tg_lt hg hyg hy
    have e3 := pu_eqE (by omega) (by omega) e
    have e4 : x = y := by rw [← sg_tg hxg, e3, sg_tg hyg]
    exact l4 d hd k hk d2 hd2 k2 hk2 (by rw [q, q2, e4])
  · unfold AgS at hs
    obtain ⟨a0, a1, a2, a3, a4, a5, a6, a7, a8, a9, a10, a11, a12, a13, a14, a15⟩ := hs
    rw [ve 0 (by omega) (by omega), ve 2 (by omega) (by omega), ve 3 (by omega) (by omega), ve 4 (by omega) (by omega), ve 5 (by omega) (by omega), ve 6 (by omega) (by omega), ve 7 (by omega) (by omega), ve 8 (by omega) (by omega), ve 9 (by omega) (by omega), ve 10 (by omega) (by omega), ve 11 (by omega) (by omega), ve 12 (by omega) (by omega), ve 13 (by omega) (by omega), ve 14 (by omega) (by omega), ve 15 (by omega) (by omega)]
    exact ⟨a0, by rw [vn, e12], a2, a3, a4, a5, a6, a7, a8, a9, a10, a11, a12, a13, a14, a15⟩
  · intro j hj
    have hj2 := sg_lt (g := g) hj
    obtain ⟨b0, b1, b2, b3, b4, b5, b6⟩ := aG _ hj2
    rw [vg j hj 0 (by omega) (by omega), vg j hj 1 (by omega) (by omega), vg j hj 2 (by omega) (by omega), vg j hj 3 (by omega) (by omega), v4 j hj, vg j hj 5 (by omega) (by omega), vg j hj 6 (by omega) (by omega), b0, b1, b2, b3, b4, b5, b6]
    refine ⟨(e0 0 (by omega) (by omega) (by omega) j hj).symm, (e0 1 (by omega) (by omega) (by omega) j hj).symm, (e0 2 (by omega) (by omega) (by omega) j hj).symm, (e0 3 (by omega) (by omega) (by omega) j hj).symm, ?_, (e0 6 (by omega) (by omega) (by omega) j hj).symm, (e0 7 (by omega) (by omega) (by omega) j hj).symm⟩
    unfold wc
    rcases c4 j hj with ⟨q1, q2⟩ | ⟨o, p1, p2, p3, p4, p5, p6⟩
    · rw [q1, q2, if_pos rfl, if_pos rfl]
      rcases c5 j hj with ⟨q3, q4⟩ | ⟨o, p1, p2, p3, p4, p5, p6⟩
      · rw [q3, q4, if_pos rfl, if_pos rfl, nw_nI (by omega) (by omega), tg_sg]
      · have t1 := tg_lt hg p2 p1
        rw [p4, p5, if_neg (nI_nm (by omega)), if_neg (nI_nm (by omega)), nw_mI (by omega)]
    · have t1 := tg_lt hg p2 p1
      rw [p4, p5, if_neg (nI_nm (by omega)), if_neg (nI_nm (by omega)), nw_nI (by omega) (by omega)]
  · intro d hd
    have := l3 d hd
    refine ⟨?_, fun k hk => ?_⟩
    · rw [vl d hd]
      exact (aL d hd).1
    · rw [vk d hd k (by omega), e8 _ (by omega), (aL d hd).2 k hk]
