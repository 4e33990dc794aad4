/-! the pure part: what one state of the class and one window of the reference have in common, and pairs of changes that keep it -/
def wc (K : RK) (g : Nat) : Int32 := if K 4 g = mI then (if K 5 g = mI then nI g else mI) else K 4 g
def IvS (B n : Nat) (K : RK) : Prop := n ≤ 10 ∧ K 12 0 = nI n ∧ rg (K 11 0) B ∧ rg (K 10 0) 20 ∧ rg (K 10 1) 10 ∧ rg (K 10 2) 9 ∧ rg (K 10 3) 9 ∧ rg (K 10 4) 9 ∧ rg (K 10 5) 99
def IvG (B n : Nat) (K : RK) : Prop := ∀ g : Nat, g < n → rg (K 0 g) 4 ∧ rg (K 1 g) 999 ∧ rg (K 2 g) (360 * B) ∧ rg (K 3 g) 40 ∧ rg (K 6 g) 9 ∧ rg (K 7 g) 1
def IvC (n : Nat) (K : RK) : Prop := ∀ g : Nat, g < n → (K 4 g = mI ∨ ∃ o : Nat, o < n ∧ o ≠ g ∧ K 4 g = nI o ∧ K 5 o = nI g) ∧ (K 5 g = mI ∨ ∃ b : Nat, b < n ∧ b ≠ g ∧ K 5 g = nI b ∧ K 4 b = nI g)
def IvL (n : Nat) (l : Nat → Nat) (K : RK) : Prop := (∀ c : Nat, c < 3 → K 9 c = nI (l c)) ∧ (∀ c : Nat, c < 3 → ∀ k : Nat, k < l c → ∃ x : Nat, x < n ∧ K 8 (c * 10 + k) = nI x) ∧ (∀ c : Nat, c < 3 → l c ≤ 10) ∧ (∀ c : Nat, c < 3 → ∀ k : Nat, k < l c → ∀ d : Nat, d < 3 → ∀ j : Nat, j < l d → K 8 (c * 10 + k) = K 8 (d * 10 + j) → c = d ∧ k = j)
def AgS (K : RK) (w : Nat → Int32) : Prop := w 0 = K 11 0 ∧ w 1 = K 12 0 ∧ w 2 = K 11 1 ∧ w 3 = K 11 2 ∧ w 4 = K 11 3 ∧ w 5 = K 11 4 ∧ w 6 = K 11 5 ∧ w 7 = K 11 6 ∧ w 8 = K 11 7 ∧ w 9 = K 11 8 ∧ w 10 = K 10 0 ∧ w 11 = K 10 1 ∧ w 12 = K 10 2 ∧ w 13 = K 10 3 ∧ w 14 = K 10 4 ∧ w 15 = K 10 5
def AgG (n : Nat) (K : RK) (w : Nat → Int32) : Prop := ∀ g : Nat, g < n → w (16 + 7 * g + 0) = K 0 g ∧ w (16 + 7 * g + 1) = K 1 g ∧ w (16 + 7 * g + 2) = K 2 g ∧ w (16 + 7 * g + 3) = K 3 g ∧ w (16 + 7 * g + 4) = wc K g ∧ w (16 + 7 * g + 5) = K 6 g ∧ w (16 + 7 * g + 6) = K 7 g
def AgL (l : Nat → Nat) (K : RK) (w : Nat → Int32) : Prop := ∀ c : Nat, c < 3 → w (86 + 11 * c) = nI (l c) ∧ ∀ k : Nat, k < l c → w (86 + 11 * c + 1 + k) = K 8 (c * 10 + k)
def Rel (B n : Nat) (l : Nat → Nat) (K : RK) (w : Nat → Int32) : Prop := IvS B n K ∧ IvG B n K ∧ IvC n K ∧ IvL n l K ∧ AgS K w ∧ AgG n K w ∧ AgL l K w
theorem rg_le {x : Int32} {a b : Nat} (h : rg x a) (hab : a ≤ b) : rg x b := by
  obtain ⟨v, hv, e⟩ := h
  exact ⟨v, Nat.le_trans hv hab, e⟩
theorem Rel.mono {B B2 n : Nat} {l : Nat → Nat} {K : RK} {w : Nat → Int32} (hB : B ≤ B2) (h : Rel B n l K w) : Rel B2 n l K w := by
  obtain ⟨⟨s1, s2, s3, s4⟩, hG, hR⟩ := h
  refine ⟨⟨s1, s2, rg_le s3 hB, s4⟩, ?_, hR⟩
  intro g hg
  obtain ⟨g1, g2, g3, g4⟩ := hG g hg
  exact ⟨g1, g2, rg_le g3 (by omega), g4⟩
theorem Rel.congr {B n : Nat} {l : Nat → Nat} {K K2 : RK} {w w2 : Nat → Int32} (hK : ∀ r j, K r j = K2 r j) (hw : ∀ j, j < 119 → w j = w2 j) (h : Rel B n l K w) : Rel B n l K2 w2 := by
  have e : K = K2 := funext fun r => funext fun j => hK r j
  subst e
  obtain ⟨hS, hG, hC, hL, aS, aG, aL⟩ := h
  have hn : n ≤ 10 := hS.1
  have hl : ∀ c : Nat, c < 3 → l c ≤ 10 := hL.2.2.1
  refine ⟨hS, hG, hC, hL, ?_, ?_, ?_⟩
  · unfold AgS at aS ⊢
    rw [← hw 0 (by omega), ← hw 1 (by omega), ← hw 2 (by omega), ← hw 3 (by omega), ← hw 4 (by omega), ← hw 5 (by omega), ← hw 6 (by omega), ← hw 7 (by omega), ← hw 8 (by omega), ← hw 9 (by omega), ← hw 10 (by omega), ← hw 11 (by omega), ← hw 12 (by omega), ← hw 13 (by omega), ← hw 14 (by omega), ← hw 15 (by omega)]
    exact aS
  · intro g hg
    rw [← hw (16 + 7 * g + 0) (by omega), ← hw (16 + 7 * g + 1) (by omega), ← hw (16 + 7 * g + 2) (by omega), ← hw (16 + 7 * g + 3) (by omega), ← hw (16 + 7 * g + 4) (by omega), ← hw (16 + 7 * g + 5) (by omega), ← hw (16 + 7 * g + 6) (by omega)]
    exact aG g hg
  · intro c hc
    have := hl c hc
    refine ⟨?_, fun k hk => ?_⟩
    · rw [← hw (86 + 11 * c) (by omega)]
      exact (aL c hc).1
    · rw [← hw (86 + 11 * c + 1 + k) (by omega)]
      exact (aL c hc).2 k hk
theorem P_r0 {B n : Nat} {l : Nat → Nat} {K : RK} {w : Nat → Int32} (h : Rel B n l K w) {g v : Nat} (hg : g < n) (hv : v ≤ 4) : Rel B n l (upR K 0 (upd (K 0) g (nI v))) (upd w (16 + 7 * g + 0) (nI v)) := by
  obtain ⟨hS, hG, hC, hL, aS, aG, aL⟩ := h
  have hn : n ≤ 10 := hS.1
  refine ⟨hS, ?_, hC, hL, ?_, ?_, ?_⟩
  · intro j hj0
    have hj := hG j hj0
    by_cases e : j = g
    · subst e
      simp (disch := omega) only [pu_Rs, pu_Rn]
      exact ⟨⟨v, hv, pu_us rfl⟩, hj.2.1, hj.2.2.1, hj.2.2.2.1, hj.2.2.2.2.1, hj.2.2.2.2.2⟩
    · simp (disch := omega) only [pu_Rs, pu_Rn, pu_un]
      exact hj
  · unfold AgS at aS ⊢
    simp (disch := omega) only [pu_Rn, pu_un]
    exact aS
  · intro j hj0
    have hk := aG j hj0
    by_cases e : j = g
    · subst e
      simp (disch := omega) only [pu_Rs, pu_Rn, pu_un, pu_us, pu_nn, true_and, and_true]
      exact ⟨hk.2.1, hk.2.2.1, hk.2.2.2.1, hk.2.2.2.2.1, hk.2.2.2.2.2.1, hk.2.2.2.2.2.2⟩
    · simp (disch := omega) only [pu_Rs, pu_Rn, pu_un]
      exact hk
  · intro d hd
    refine ⟨?_, fun k hk => ?_⟩
    · rw [pu_un (by omega)]
      exact (aL d hd).1
    · rw [pu_un (by omega)]
      exact (aL d hd).2 k hk
theorem P_r1 {B n : Nat} {l : Nat → Nat} {K : RK} {w : Nat → Int32} (h : Rel B n l K w) {g v : Nat} (hg : g < n) (hv : v ≤ 999) : Rel B n l (upR K 1 (upd (K 1) g (nI v))) (upd w (16 + 7 * g + 1) (nI v)) := by
  obtain ⟨hS, hG, hC, hL, aS, aG, aL⟩ := h
  have hn : n ≤ 10 := hS.1
  refine ⟨hS, ?_, hC, hL, ?_, ?_, ?_⟩
  · intro j hj0
    have hj := hG j hj0
    by_cases e : j = g
    · subst e
      simp (disch := omega) only [pu_Rs, pu_Rn]
      exact ⟨hj.1, ⟨v, hv, pu_us rfl⟩, hj.2.2.1, hj.2.2.2.1, hj.2.2.2.2.1, hj.2.2.2.2.2⟩
    · simp (disch := omega) only [pu_Rs, pu_Rn, pu_un]
      exact hj
  · unfold AgS at aS ⊢
    simp (disch := omega) only [pu_Rn, pu_un]
    exact aS
  · intro j hj0
    have hk := aG j hj0
    by_cases e : j = g
    · subst e
      simp (disch := omega) only [pu_Rs, pu_Rn, pu_un, pu_us, pu_nn, true_and, and_true]
      exact ⟨hk.1, hk.2.2.1, hk.2.2.2.1, hk.2.2.2.2.1, hk.2.2.2.2.2.1, hk.2.2.2.2.2.2⟩
    · simp (disch := omega) only [pu_Rs, pu_Rn, pu_un]
      exact hk
  · intro d hd
    refine ⟨?_, fun k hk => ?_⟩
    · rw [pu_un (by omega)]
      exact (aL d hd).1
    · rw [pu_un (by omega)]
      exact (aL d hd).2 k hk
theorem P_r2 {B n : Nat} {l : Nat → Nat} {K : RK} {w : Nat → Int32} (h : Rel B n l K w) {g v : Nat} (hg : g < n) (hv : v ≤ 360 * B) : Rel B n l (upR K 2 (upd (K 2) g (nI v))) (upd w (16 + 7 * g + 2) (nI v)) := by
  obtain ⟨hS, hG, hC, hL, aS, aG, aL⟩ := h
  have hn : n ≤ 10 := hS.1
  refine ⟨hS, ?_, hC, hL, ?_, ?_, ?_⟩
  · intro j hj0
    have hj := hG j hj0
    by_cases e : j = g
    · subst e
      simp (disch := omega) only [pu_Rs, pu_Rn]
      exact ⟨hj.1, hj.2.1, ⟨v, hv, pu_us rfl⟩, hj.2.2.2.1, hj.2.2.2.2.1, hj.2.2.2.2.2⟩
    · simp (disch := omega) only [pu_Rs, pu_Rn, pu_un]
      exact hj
  · unfold AgS at aS ⊢
    simp (disch := omega) only [pu_Rn, pu_un]
    exact aS
  · intro j hj0
    have hk := aG j hj0
    by_cases e : j = g
    · subst e
      simp (disch := omega) only [pu_Rs, pu_Rn, pu_un, pu_us, pu_nn, true_and, and_true]
      exact ⟨hk.1, hk.2.1, hk.2.2.2.1, hk.2.2.2.2.1, hk.2.2.2.2.2.1, hk.2.2.2.2.2.2⟩
    · simp (disch := omega) only [pu_Rs, pu_Rn, pu_un]
      exact hk
  · intro d hd
    refine ⟨?_, fun k hk => ?_⟩
    · rw [pu_un (by omega)]
      exact (aL d hd).1
    · rw [pu_un (by omega)]
      exact (aL d hd).2 k hk
theorem P_r3 {B n : Nat} {l : Nat → Nat} {K : RK} {w : Nat → Int32} (h : Rel B n l K w) {g v : Nat} (hg : g < n) (hv : v ≤ 40) : Rel B n l (upR K 3 (upd (K 3) g (nI v))) (upd w (16 + 7 * g + 3) (nI v)) := by
  obtain ⟨hS, hG, hC, hL, aS, aG, aL⟩ := h
  have hn : n ≤ 10 := hS.1
  refine ⟨hS, ?_, hC, hL, ?_, ?_, ?_⟩
  · intro j hj0
    have hj := hG j hj0
    by_cases e : j = g
    · subst e
      simp (disch := omega) only [pu_Rs, pu_Rn]
      exact ⟨hj.1, hj.2.1, hj.2.2.1, ⟨v, hv, pu_us rfl⟩, hj.2.2.2.2.1, hj.2.2.2.2.2⟩
    · simp (disch := omega) only [pu_Rs, pu_Rn, pu_un]
      exact hj
  · unfold AgS at aS ⊢
    simp (disch := omega) only [pu_Rn, pu_un]
    exact aS
  · intro j hj0
    have hk := aG j hj0
    by_cases e : j = g
    · subst e
      simp (disch := omega) only [pu_Rs, pu_Rn, pu_un, pu_us, pu_nn, true_and, and_true]
      exact ⟨hk.1, hk.2.1, hk.2.2.1, hk.2.2.2.2.1, hk.2.2.2.2.2.1, hk.2.2.2.2.2.2⟩
    · simp (disch := omega) only [pu_Rs, pu_Rn, pu_un]
      exact hk
  · intro d hd
    refine ⟨?_, fun k hk => ?_⟩
    · rw [pu_un (by omega)]
      exact (aL d hd).1
    · rw [pu_un (by omega)]
      exact (aL d hd).2 k hk
theorem P_r6 {B n : Nat} {l : Nat → Nat} {K : RK} {w : Nat → Int32} (h : Rel B n l K w) {g v : Nat} (hg : g < n) (hv : v ≤ 9) : Rel B n l (upR K 6 (upd (K 6) g (nI v))) (upd w (16 + 7 * g + 5) (nI v)) := by
  obtain ⟨hS, hG, hC, hL, aS, aG, aL⟩ := h
  have hn : n ≤ 10 := hS.1
  refine ⟨hS, ?_, hC, hL, ?_, ?_, ?_⟩
  · intro j hj0
    have hj := hG j hj0
    by_cases e : j = g
    · subst e
      simp (disch := omega) only [pu_Rs, pu_Rn]
      exact ⟨hj.1, hj.2.1, hj.2.2.1, hj.2.2.2.1, ⟨v, hv, pu_us rfl⟩, hj.2.2.2.2.2⟩
    · simp (disch := omega) only [pu_Rs, pu_Rn, pu_un]
      exact hj
  · unfold AgS at aS ⊢
    simp (disch := omega) only [pu_Rn, pu_un]
    exact aS
  · intro j hj0
    have hk := aG j hj0
    by_cases e : j = g
    · subst e
      simp (disch := omega) only [pu_Rs, pu_Rn, pu_un, pu_us, pu_nn, true_and, and_true]
      exact ⟨hk.1, hk.2.1, hk.2.2.1, hk.2.2.2.1, hk.2.2.2.2.1, hk.2.2.2.2.2.2⟩
    · simp (disch := omega) only [pu_Rs, pu_Rn, pu_un]
      exact hk
  · intro d hd
    refine ⟨?_, fun k hk => ?_⟩
    · rw [pu_un (by omega)]
      exact (aL d hd).1
    · rw [pu_un (by omega)]
      exact (aL d hd).2 k hk
theorem P_r7 {B n : Nat} {l : Nat → Nat} {K : RK} {w : Nat → Int32} (h : Rel B n l K w) {g v : Nat} (hg : g < n) (hv : v ≤ 1) : Rel B n l (upR K 7 (upd (K 7) g (nI v))) (upd w (16 + 7 * g + 6) (nI v)) := by
  obtain ⟨hS, hG, hC, hL, aS, aG, aL⟩ := h
  have hn : n ≤ 10 := hS.1
  refine ⟨hS, ?_, hC, hL, ?_, ?_, ?_⟩
  · intro j hj0
    have hj := hG j hj0
    by_cases e : j = g
    · subst e
      simp (disch := omega) only [pu_Rs, pu_Rn]
      exact ⟨hj.1, hj.2.1, hj.2.2.1, hj.2.2.2.1, hj.2.2.2.2.1, ⟨v, hv, pu_us rfl⟩⟩
    · simp (disch := omega) only [pu_Rs, pu_Rn, pu_un]
      exact hj
  · unfold AgS at aS ⊢
    simp (disch := omega) only [pu_Rn, pu_un]
    exact aS
  · intro j hj0
    have hk := aG j hj0
    by_cases e : j = g
    · subst e
      simp (disch := omega) only [pu_Rs, pu_Rn, pu_un, pu_us, pu_nn, true_and, and_true]
      exact ⟨hk.1, hk.2.1, hk.2.2.1, hk.2.2.2.1, hk.2.2.2.2.1, hk.2.2.2.2.2.1⟩
    · simp (disch := omega) only [pu_Rs, pu_Rn, pu_un]
      exact hk
  · intro d hd
    refine ⟨?_, fun k hk => ?_⟩
    · rw [pu_un (by omega)]
      exact (aL d hd).1
    · rw [pu_un (by omega)]
      exact (aL d hd).2 k hk
theorem P_s2 {B n : Nat} {l : Nat → Nat} {K : RK} {w : Nat → Int32} (h : Rel B n l K w) (x : Int32) : Rel B n l (upR K 11 (upd (K 11) 1 x)) (upd w 2 x) := by
  obtain ⟨hS, hG, hC, hL, hs, aG, aL⟩ := h
  have hn : n ≤ 10 := hS.1
  refine ⟨hS, hG, hC, hL, ?_, ?_, ?_⟩
  · unfold AgS at hs ⊢
    simp (disch := omega) only [pu_Rs, pu_Rn, pu_un, pu_us]
    exact ⟨hs.1, hs.2.1, trivial, hs.2.2.2.1, hs.2.2.2.2.1, hs.2.2.2.2.2.1, hs.2.2.2.2.2.2.1, hs.2.2.2.2.2.2.2.1, hs.2.2.2.2.2.2.2.2.1, hs.2.2.2.2.2.2.2.2.2.1, hs.2.2.2.2.2.2.2.2.2.2.1, hs.2.2.2.2.2.2.2.2.2.2.2.1, hs.2.2.2.2.2.2.2.2.2.2.2.2.1, hs.2.2.2.2.2.2.2.2.2.2.2.2.2.1, hs.2.2.2.2.2.2.2.2.2.2.2.2.2.2.1, hs.2.2.2.2.2.2.2.2.2.2.2.2.2.2.2⟩
  · intro j hj0
    have hk := aG j hj0
    simp (disch := omega) only [pu_un]
    exact hk
  · intro d hd
    refine ⟨?_, fun k hk => ?_⟩
    · rw [pu_un (by omega)]
      exact (aL d hd).1
    · rw [pu_un (by omega)]
      exact (aL d hd).2 k hk
theorem P_s3 {B n : Nat} {l : Nat → Nat} {K : RK} {w : Nat → Int32} (h : Rel B n l K w) (x : Int32) : Rel B n l (upR K 11 (upd (K 11) 2 x)) (upd w 3 x) := by
  obtain ⟨hS, hG, hC, hL, hs, aG, aL⟩ := h
  have hn : n ≤ 10 := hS.1
  refine ⟨hS, hG, hC, hL, ?_, ?_, ?_⟩
  · unfold AgS at hs ⊢
    simp (disch := omega) only [pu_Rs, pu_Rn, pu_un, pu_us]
    exact ⟨hs.1, hs.2.1, hs.2.2.1, trivial, hs.2.2.2.2.1, hs.2.2.2.2.2.1, hs.2.2.2.2.2.2.1, hs.2.2.2.2.2.2.2.1, hs.2.2.2.2.2.2.2.2.1, hs.2.2.2.2.2.2.2.2.2.1, hs.2.2.2.2.2.2.2.2.2.2.1, hs.2.2.2.2.2.2.2.2.2.2.2.1, hs.2.2.2.2.2.2.2.2.2.2.2.2.1, hs.2.2.2.2.2.2.2.2.2.2.2.2.2.1, hs.2.2.2.2.2.2.2.2.2.2.2.2.2.2.1, hs.2.2.2.2.2.2.2.2.2.2.2.2.2.2.2⟩
  · intro j hj0
    have hk := aG j hj0
    simp (disch := omega) only [pu_un]
    exact hk
  · intro d hd
    refine ⟨?_, fun k hk => ?_⟩
    · rw [pu_un (by omega)]
      exact (aL d hd).1
    · rw [pu_un (by omega)]
      exact (aL d hd).2 k hk
theorem P_s4 {B n : Nat} {l : Nat → Nat} {K : RK} {w : Nat → Int32} (h : Rel B n l K w) (x : Int32) : Rel B n l (upR K 11 (upd (K 11) 3 x)) (upd w 4 x) := by
  obtain ⟨hS, hG, hC, hL, hs, aG, aL⟩ := h
  have hn : n ≤ 10 := hS.1
  refine ⟨hS, hG, hC, hL, ?_, ?_, ?_⟩
  · unfold AgS at hs ⊢
    simp (disch := omega) only [pu_Rs, pu_Rn, pu_un, pu_us]
    exact ⟨hs.1, hs.2.1, hs.2.2.1, hs.2.2.2.1, trivial, hs.2.2.2.2.2.1, hs.2.2.2.2.2.2.1, hs.2.2.2.2.2.2.2.1, hs.2.2.2.2.2.2.2.2.1, hs.2.2.2.2.2.2.2.2.2.1, hs.2.2.2.2.2.2.2.2.2.2.1, hs.2.2.2.2.2.2.2.2.2.2.2.1, hs.2.2.2.2.2.2.2.2.2.2.2.2.1, hs.2.2.2.2.2.2.2.2.2.2.2.2.2.1, hs.2.2.2.2.2.2.2.2.2.2.2.2.2.2.1, hs.2.2.2.2.2.2.2.2.2.2.2.2.2.2.2⟩
  · intro j hj0
    have hk := aG j hj0
    simp (disch := omega) only [pu_un]
    exact hk
  · intro d hd
    refine ⟨?_, fun k hk => ?_⟩
    · rw [pu_un (by omega)]
      exact (aL d hd).1
    · rw [pu_un (by omega)]
      exact (aL d hd).2 k hk
theorem P_s5 {B n : Nat} {l : Nat → Nat} {K : RK} {w : Nat → Int32} (h : Rel B n l K w) (x : Int32) : Rel B n l (upR K 11 (upd (K 11) 4 x)) (upd w 5 x) := by
  obtain ⟨hS, hG, hC, hL, hs, aG, aL⟩ := h
  have hn : n ≤ 10 := hS.1
  refine ⟨hS, hG, hC, hL, ?_, ?_, ?_⟩
  · unfold AgS at hs ⊢
    simp (disch := omega) only [pu_Rs, pu_Rn, pu_un, pu_us]
    exact ⟨hs.1, hs.2.1, hs.2.2.1, hs.2.2.2.1, hs.2.2.2.2.1, trivial, hs.2.2.2.2.2.2.1, hs.2.2.2.2.2.2.2.1, hs.2.2.2.2.2.2.2.2.1, hs.2.2.2.2.2.2.2.2.2.1, hs.2.2.2.2.2.2.2.2.2.2.1, hs.2.2.2.2.2.2.2.2.2.2.2.1, hs.2.2.2.2.2.2.2.2.2.2.2.2.1, hs.2.2.2.2.2.2.2.2.2.2.2.2.2.1, hs.2.2.2.2.2.2.2.2.2.2.2.2.2.2.1, hs.2.2.2.2.2.2.2.2.2.2.2.2.2.2.2⟩
  · intro j hj0
    have hk := aG j hj0
    simp (disch := omega) only [pu_un]
    exact hk
  · intro d hd
    refine ⟨?_, fun k hk => ?_⟩
    · rw [pu_un (by omega)]
      exact (aL d hd).1
    · rw [pu_un (by omega)]
      exact (aL d hd).2 k hk
theorem P_s6 {B n : Nat} {l : Nat → Nat} {K : RK} {w : Nat → Int32} (h : Rel B n l K w) (x : Int32) : Rel B n l (upR K 11 (upd (K 11) 5 x)) (upd w 6 x) := by
  obtain ⟨hS, hG, hC, hL, hs, aG, aL⟩ := h
  have hn : n ≤ 10 := hS.1
  refine ⟨hS, hG, hC, hL, ?_, ?_, ?_⟩
  · unfold AgS at hs ⊢
    simp (disch := omega) only [pu_Rs, pu_Rn, pu_un, pu_us]
    exact ⟨hs.1, hs.2.1, hs.2.2.1, hs.2.2.2.1, hs.2.2.2.2.1, hs.2.2.2.2.2.1, trivial, hs.2.2.2.2.2.2.2.1, hs.2.2.2.2.2.2.2.2.1, hs.2.2.2.2.2.2.2.2.2.1, hs.2.2.2.2.2.2.2.2.2.2.1, hs.2.2.2.2.2.2.2.2.2.2.2.1, hs.2.2.2.2.2.2.2.2.2.2.2.2.1, hs.2.2.2.2.2.2.2.2.2.2.2.2.2.1, hs.2.2.2.2.2.2.2.2.2.2.2.2.2.2.1, hs.2.2.2.2.2.2.2.2.2.2.2.2.2.2.2⟩
  · intro j hj0
    have hk := aG j hj0
    simp (disch := omega) only [pu_un]
    exact hk
  · intro d hd
    refine ⟨?_, fun k hk => ?_⟩
    · rw [pu_un (by omega)]
      exact (aL d hd).1
    · rw [pu_un (by omega)]
      exact (aL d hd).2 k hk
theorem P_s7 {B n : Nat} {l : Nat → Nat} {K : RK} {w : Nat → Int32} (h : Rel B n l K w) (x : Int32) : Rel B n l (upR K 11 (upd (K 11) 6 x)) (upd w 7 x) := by
  obtain ⟨hS, hG, hC, hL, hs, aG, aL⟩ := h
  have hn : n ≤ 10 := hS.1
  refine ⟨hS, hG, hC, hL, ?_, ?_, ?_⟩
  · unfold AgS at hs ⊢
    simp (disch := omega) only [pu_Rs, pu_Rn, pu_un, pu_us]
    exact ⟨hs.1, hs.2.1, hs.2.2.1, hs.2.2.2.1, hs.2.2.2.2.1, hs.2.2.2.2.2.1, hs.2.2.2.2.2.2.1, trivial, hs.2.2.2.2.2.2.2.2.1, hs.2.2.2.2.2.2.2.2.2.1, hs.2.2.2.2.2.2.2.2.2.2.1, hs.2.2.2.2.2.2.2.2.2.2.2.1, hs.2.2.2.2.2.2.2.2.2.2.2.2.1, hs.2.2.2.2.2.2.2.2.2.2.2.2.2.1, hs.2.2.2.2.2.2.2.2.2.2.2.2.2.2.1, hs.2.2.2.2.2.2.2.2.2.2.2.2.2.2.2⟩
  · intro j hj0
    have hk := aG j hj0
    simp (disch := omega) only [pu_un]
    exact hk
  · intro d hd
    refine ⟨?_, fun k hk => ?_⟩
    · rw [pu_un (by omega)]
      exact (aL d hd).1
    · rw [pu_un (by omega)]
      exact (aL d hd).2 k hk
theorem P_s8 {B n : Nat} {l : Nat → Nat} {K : RK} {w : Nat → Int32} (h : Rel B n l K w) (x : Int32) : Rel B n l (upR K 11 (upd (K 11) 7 x)) (upd w 8 x) := by
  obtain ⟨hS, hG, hC, hL, hs, aG, aL⟩ := h
  have hn : n ≤ 10 := hS.1
  refine ⟨hS, hG, hC, hL, ?_, ?_, ?_⟩
  · unfold AgS at hs ⊢
    simp (disch := omega) only [pu_Rs, pu_Rn, pu_un, pu_us]
    exact ⟨hs.1, hs.2.1, hs.2.2.1, hs.2.2.2.1, hs.2.2.2.2.1, hs.2.2.2.2.2.1, hs.2.2.2.2.2.2.1, hs.2.2.2.2.2.2.2.1, trivial, hs.2.2.2.2.2.2.2.2.2.1, hs.2.2.2.2.2.2.2.2.2.2.1, hs.2.2.2.2.2.2.2.2.2.2.2.1, hs.2.2.2.2.2.2.2.2.2.2.2.2.1, hs.2.2.2.2.2.2.2.2.2.2.2.2.2.1, hs.2.2.2.2.2.2.2.2.2.2.2.2.2.2.1, hs.2.2.2.2.2.2.2.2.2.2.2.2.2.2.2⟩
  · intro j hj0
    have hk := aG j hj0
    simp (disch := omega) only [pu_un]
    exact hk
  · intro d hd
    refine ⟨?_, fun k hk => ?_⟩
    · rw [pu_un (by omega)]
      exact (aL d hd).1
    · rw [pu_un (by omega)]
      exact (aL d hd).2 k hk
theorem P_s9 {B n : Nat} {l : Nat → Nat} {K : RK} {w : Nat → Int32} (h : Rel B n l K w) (x : Int32) : Rel B n l (upR K 11 (upd (K 11) 8 x)) (upd w 9 x) := by
  obtain ⟨hS, hG, hC, hL, hs, aG, aL⟩ := h
  have hn : n ≤ 10 := hS.1
  refine ⟨hS, hG, hC, hL, ?_, ?_, ?_⟩
  · unfold AgS at hs ⊢
    simp (disch := omega) only [pu_Rs, pu_Rn, pu_un, pu_us]
    exact ⟨hs.1, hs.2.1, hs.2.2.1, hs.2.2.2.1, hs.2.2.2.2.1, hs.2.2.2.2.2.1, hs.2.2.2.2.2.2.1, hs.2.2.2.2.2.2.2.1, hs.2.2.2.2.2.2.2.2.1, trivial, hs.2.2.2.2.2.2.2.2.2.2.1, hs.2.2.2.2.2.2.2.2.2.2.2.1, hs.2.2.2.2.2.2.2.2.2.2.2.2.1, hs.2.2.2.2.2.2.2.2.2.2.2.2.2.1, hs.2.2.2.2.2.2.2.2.2.2.2.2.2.2.1, hs.2.2.2.2.2.2.2.2.2.2.2.2.2.2.2⟩
  · intro j hj0
    have hk := aG j hj0
    simp (disch := omega) only [pu_un]
    exact hk
  · intro d hd
    refine ⟨?_, fun k hk => ?_⟩
    · rw [pu_un (by omega)]
      exact (aL d hd).1
    · rw [pu_un (by omega)]
      exact (aL d hd).2 k hk
theorem P_s0 {B n : Nat} {l : Nat → Nat} {K : RK} {w : Nat → Int32} (h : Rel B n l K w) {v : Nat} (hv : v ≤ B) : Rel B n l (upR K 11 (upd (K 11) 0 (nI v))) (upd w 0 (nI v)) := by
  obtain ⟨hS, hG, hC, hL, hs, aG, aL⟩ := h
  have hn : n ≤ 10 := hS.1
  refine ⟨?_, hG, hC, hL, ?_, ?_, ?_⟩
  · unfold IvS at hS ⊢
    simp (disch := omega) only [pu_Rs, pu_Rn, pu_un, pu_us]
    exact ⟨hS.1, hS.2.1, ⟨v, hv, rfl⟩, hS.2.2.2⟩
  · unfold AgS at hs ⊢
    simp (disch := omega) only [pu_Rs, pu_Rn, pu_un, pu_us]
    exact ⟨trivial, hs.2.1, hs.2.2.1, hs.2.2.2.1, hs.2.2.2.2.1, hs.2.2.2.2.2.1, hs.2.2.2.2.2.2.1, hs.2.2.2.2.2.2.2.1, hs.2.2.2.2.2.2.2.2.1, hs.2.2.2.2.2.2.2.2.2.1, hs.2.2.2.2.2.2.2.2.2.2.1, hs.2.2.2.2.2.2.2.2.2.2.2.1, hs.2.2.2.2.2.2.2.2.2.2.2.2.1, hs.2.2.2.2.2.2.2.2.2.2.2.2.2.1, hs.2.2.2.2.2.2.2.2.2.2.2.2.2.2.1, hs.2.2.2.2.2.2.2.2.2.2.2.2.2.2.2⟩
  · intro j hj0
    have hk := aG j hj0
    simp (disch := omega) only [pu_un]
    exact hk
  · intro d hd
    refine ⟨?_, fun k hk => ?_⟩
    · rw [pu_un (by omega)]
      exact (aL d hd).1
    · rw [pu_un (by omega)]
      exact (aL d hd).2 k hk
theorem P_t0 {B n : Nat} {l : Nat → Nat} {K : RK} {w : Nat → Int32} (h : Rel B n l K w) {v : Nat} (hv : v ≤ 20) : Rel B n l (upR K 10 (upd (K 10) 0 (nI v))) (upd w 10 (nI v)) := by
  obtain ⟨hS, hG, hC, hL, hs, aG, aL⟩ := h
  have hn : n ≤ 10 := hS.1
  refine ⟨?_, hG, hC, hL, ?_, ?_, ?_⟩
  · unfold IvS at hS ⊢
    simp (disch := omega) only [pu_Rs, pu_Rn, pu_un, pu_us]
    exact ⟨hS.1, hS.2.1, hS.2.2.1, ⟨v, hv, rfl⟩, hS.2.2.2.2.1, hS.2.2.2.2.2.1, hS.2.2.2.2.2.2.1, hS.2.2.2.2.2.2.2.1, hS.2.2.2.2.2.2.2.2⟩
  · unfold AgS at hs ⊢
    simp (disch := omega) only [pu_Rs, pu_Rn, pu_un, pu_us]
    exact ⟨hs.1, hs.2.1, hs.2.2.1, hs.2.2.2.1, hs.2.2.2.2.1, hs.2.2.2.2.2.1, hs.2.2.2.2.2.2.1, hs.2.2.2.2.2.2.2.1, hs.2.2.2.2.2.2.2.2.1, hs.2.2.2.2.2.2.2.2.2.1, trivial, hs.2.2.2.2.2.2.2.2.2.2.2.1, hs.2.2.2.2.2.2.2.2.2.2.2.2.1, hs.2.2.2.2.2.2.2.2.2.2.2.2.2.1, hs.2.2.2.2.2.2.2.2.2.2.2.2.2.2.1, hs.2.2.2.2.2.2.2.2.2.2.2.2.2.2.2⟩
  · intro j hj0
    have hk := aG j hj0
    simp (disch := omega) only [pu_un]
    exact hk
  · intro d hd
    refine ⟨?_, fun k hk => ?_⟩
    · rw [pu_un (by omega)]
      exact (aL d hd).1
    · rw [pu_un (by omega)]
      exact (aL d hd).2 k hk
theorem P_t1 {B n : Nat} {l : Nat → Nat} {K : RK} {w : Nat → Int32} (h : Rel B n l K w) {v : Nat} (hv : v ≤ 10) : Rel B n l (upR K 10 (upd (K 10) 1 (nI v))) (upd w 11 (nI v)) := by
  obtain ⟨hS, hG, hC, hL, hs, aG, aL⟩ := h
  have hn : n ≤ 10 := hS.1
  refine ⟨?_, hG, hC, hL, ?_, ?_, ?_⟩
  · unfold IvS at hS ⊢
    simp (disch := omega) only [pu_Rs, pu_Rn, pu_un, pu_us]
    exact ⟨hS.1, hS.2.1, hS.2.2.1, hS.2.2.2.1, ⟨v, hv, rfl⟩, hS.2.2.2.2.2.1, hS.2.2.2.2.2.2.1, hS.2.2.2.2.2.2.2.1, hS.2.2.2.2.2.2.2.2⟩
  · unfold AgS at hs ⊢
    simp (disch := omega) only [pu_Rs, pu_Rn, pu_un, pu_us]
    exact ⟨hs.1, hs.2.1, hs.2.2.1, hs.2.2.2.1, hs.2.2.2.2.1, hs.2.2.2.2.2.1, hs.2.2.2.2.2.2.1, hs.2.2.2.2.2.2.2.1, hs.2.2.2.2.2.2.2.2.1, hs.2.2.2.2.2.2.2.2.2.1, hs.2.2.2.2.2.2.2.2.2.2.1, trivial, hs.2.2.2.2.2.2.2.2.2.2.2.2.1, hs.2.2.2.2.2.2.2.2.2.2.2.2.2.1, hs.2.2.2.2.2.2.2.2.2.2.2.2.2.2.1, hs.2.2.2.2.2.2.2.2.2.2.2.2.2.2.2⟩
  · intro j hj0
    have hk := aG j hj0
    simp (disch := omega) only [pu_un]
    exact hk
  · intro d hd
    refine ⟨?_, fun k hk => ?_⟩
    · rw [pu_un (by omega)]
      exact (aL d hd).1
    · rw [pu_un (by omega)]
      exact (aL d hd).2 k hk
theorem P_t2 {B n : Nat} {l : Nat → Nat} {K : RK} {w : Nat → Int32} (h : Rel B n l K w) {v : Nat} (hv : v ≤ 9) : Rel B n l (upR K 10 (upd (K 10) 2 (nI v))) (upd w 12 (nI v)) := by
  obtain ⟨hS, hG, hC, hL, hs, aG, aL⟩ := h
  have hn : n ≤ 10 := hS.1
  refine ⟨?_, hG, hC, hL, ?_, ?_, ?_⟩
  · unfold IvS at hS ⊢
    simp (disch := omega) only [pu_Rs, pu_Rn, pu_un, pu_us]
    exact ⟨hS.1, hS.2.1, hS.2.2.1, hS.2.2.2.1, hS.2.2.2.2.1, ⟨v, hv, rfl⟩, hS.2.2.2.2.2.2.1, hS.2.2.2.2.2.2.2.1, hS.2.2.2.2.2.2.2.2⟩
  · unfold AgS at hs ⊢
    simp (disch := omega) only [pu_Rs, pu_Rn, pu_un, pu_us]
    exact ⟨hs.1, hs.2.1, hs.2.2.1, hs.2.2.2.1, hs.2.2.2.2.1, hs.2.2.2.2.2.1, hs.2.2.2.2.2.2.1, hs.2.2.2.2.2.2.2.1, hs.2.2.2.2.2.2.2.2.1, hs.2.2.2.2.2.2.2.2.2.1, hs.2.2.2.2.2.2.2.2.2.2.1, hs.2.2.2.2.2.2.2.2.2.2.2.1, trivial, hs.2.2.2.2.2.2.2.2.2.2.2.2.2.1, hs.2.2.2.2.2.2.2.2.2.2.2.2.2.2.1, hs.2.2.2.2.2.2.2.2.2.2.2.2.2.2.2⟩
  · intro j hj0
    have hk := aG j hj0
    simp (disch := omega) only [pu_un]
    exact hk
  · intro d hd
    refine ⟨?_, fun k hk => ?_⟩
    · rw [pu_un (by omega)]
      exact (aL d hd).1
    · rw [pu_un (by omega)]
      exact (aL d hd).2 k hk
theorem P_t3 {B n : Nat} {l : Nat → Nat} {K : RK} {w : Nat → Int32} (h : Rel B n l K w) {v : Nat} (hv : v ≤ 9) : Rel B n l (upR K 10 (upd (K 10) 3 (nI v))) (upd w 13 (nI v)) := by
  obtain ⟨hS, hG, hC, hL, hs, aG, aL⟩ := h
  have hn : n ≤ 10 := hS.1
  refine ⟨?_, hG, hC, hL, ?_, ?_, ?_⟩
  · unfold IvS at hS ⊢
    simp (disch := omega) only [pu_Rs, pu_Rn, pu_un, pu_us]
    exact ⟨hS.1, hS.2.1, hS.2.2.1, hS.2.2.2.1, hS.2.2.2.2.1, hS.2.2.2.2.2.1, ⟨v, hv, rfl⟩, hS.2.2.2.2.2.2.2.1, hS.2.2.2.2.2.2.2.2⟩
  · unfold AgS at hs ⊢
    simp (disch := omega) only [pu_Rs, pu_Rn, pu_un, pu_us]
    exact ⟨hs.1, hs.2.1, hs.2.2.1, hs.2.2.2.1, hs.2.2.2.2.1, hs.2.2.2.2.2.1, hs.2.2.2.2.2.2.1, hs.2.2.2.2.2.2.2.1, hs.2.2.2.2.2.2.2.2.1, hs.2.2.2.2.2.2.2.2.2.1, hs.2.2.2.2.2.2.2.2.2.2.1, hs.2.2.2.2.2.2.2.2.2.2.2.1, hs.2.2.2.2.2.2.2.2.2.2.2.2.1, trivial, hs.2.2.2.2.2.2.2.2.2.2.2.2.2.2.1, hs.2.2.2.2.2.2.2.2.2.2.2.2.2.2.2⟩
  · intro j hj0
    have hk := aG j hj0
    simp (disch := omega) only [pu_un]
    exact hk
  · intro d hd
    refine ⟨?_, fun k hk => ?_⟩
    · rw [pu_un (by omega)]
      exact (aL d hd).1
    · rw [pu_un (by omega)]
      exact (aL d hd).2 k hk
theorem P_t4 {B n : Nat} {l : Nat → Nat} {K : RK} {w : Nat → Int32} (h : Rel B n l K w) {v : Nat} (hv : v ≤ 9) : Rel B n l (upR K 10 (upd (K 10) 4 (nI v))) (upd w 14 (nI v)) := by
  obtain ⟨hS, hG, hC, hL, hs, aG, aL⟩ := h
  have hn : n ≤ 10 := hS.1
  refine ⟨?_, hG, hC, hL, ?_, ?_, ?_⟩
  · unfold IvS at hS ⊢
    simp (disch := omega) only [pu_Rs, pu_Rn, pu_un, pu_us]
    exact ⟨hS.1, hS.2.1, hS.2.2.1, hS.2.2.2.1, hS.2.2.2.2.1, hS.2.2.2.2.2.1, hS.2.2.2.2.2.2.1, ⟨v, hv, rfl⟩, hS.2.2.2.2.2.2.2.2⟩
  · unfold AgS at hs ⊢
    simp (disch := omega) only [pu_Rs, pu_Rn, pu_un, pu_us]
    exact ⟨hs.1, hs.2.1, hs.2.2.1, hs.2.2.2.1, hs.2.2.2.2.1, hs.2.2.2.2.2.1, hs.2.2.2.2.2.2.1, hs.2.2.2.2.2.2.2.1, hs.2.2.2.2.2.2.2.2.1, hs.2.2.2.2.2.2.2.2.2.1, hs.2.2.2.2.2.2.2.2.2.2.1, hs.2.2.2.2.2.2.2.2.2.2.2.1, hs.2.2.2.2.2.2.2.2.2.2.2.2.1, hs.2.2.2.2.2.2.2.2.2.2.2.2.2.1, trivial, hs.2.2.2.2.2.2.2.2.2.2.2.2.2.2.2⟩
  · intro j hj0
    have hk := aG j hj0
    simp (disch := omega) only [pu_un]
    exact hk
  · intro d hd
    refine ⟨?_, fun k hk => ?_⟩
    · rw [pu_un (by omega)]
      exact (aL d hd).1
    · rw [pu_un (by omega)]
      exact (aL d hd).2 k hk
theorem P_t5 {B n : Nat} {l : Nat → Nat} {K : RK} {w : Nat → Int32} (h : Rel B n l K w) {v : Nat} (hv : v ≤ 99) : Rel B n l (upR K 10 (upd (K 10) 5 (nI v))) (upd w 15 (nI v)) := by
  obtain ⟨hS, hG, hC, hL, hs, aG, aL⟩ := h
  have hn : n ≤ 10 := hS.1
  refine ⟨?_, hG, hC, hL, ?_, ?_, ?_⟩
  · unfold IvS at hS ⊢
    simp (disch := omega) only [pu_Rs, pu_Rn, pu_un, pu_us]
    exact ⟨hS.1, hS.2.1, hS.2.2.1, hS.2.2.2.1, hS.2.2.2.2.1, hS.2.2.2.2.2.1, hS.2.2.2.2.2.2.1, hS.2.2.2.2.2.2.2.1, ⟨v, hv, rfl⟩⟩
  · unfold AgS at hs ⊢
    simp (disch := omega) only [pu_Rs, pu_Rn, pu_un, pu_us]
    exact ⟨hs.1, hs.2.1, hs.2.2.1, hs.2.2.2.1, hs.2.2.2.2.1, hs.2.2.2.2.2.1, hs.2.2.2.2.2.2.1, hs.2.2.2.2.2.2.2.1, hs.2.2.2.2.2.2.2.2.1, hs.2.2.2.2.2.2.2.2.2.1, hs.2.2.2.2.2.2.2.2.2.2.1, hs.2.2.2.2.2.2.2.2.2.2.2.1, hs.2.2.2.2.2.2.2.2.2.2.2.2.1, hs.2.2.2.2.2.2.2.2.2.2.2.2.2.1, hs.2.2.2.2.2.2.2.2.2.2.2.2.2.2.1, trivial⟩
  · intro j hj0
    have hk := aG j hj0
    simp (disch := omega) only [pu_un]
    exact hk
  · intro d hd
    refine ⟨?_, fun k hk => ?_⟩
    · rw [pu_un (by omega)]
      exact (aL d hd).1
    · rw [pu_un (by omega)]
      exact (aL d hd).2 k hk
theorem IvC.ne {n : Nat} {K : RK} (hC : IvC n K) (hn : n ≤ 10) {g o : Nat} (hg : g < n) (h4 : K 4 g = nI o) (ho : o < 10) : o < n ∧ o ≠ g ∧ K 5 o = nI g := by
  rcases (hC g hg).1 with h | ⟨o2, h1, h2, h3, h5⟩
  · rw [h] at h4
    exact absurd h4 (by rw [pu_mI_nI (by omega)]; exact fun q => q)
  · rw [h3] at h4
    have := pu_eqE (by omega) (by omega) h4
    subst this
    exact ⟨h1, h2, h5⟩
theorem IvC.ne5 {n : Nat} {K : RK} (hC : IvC n K) (hn : n ≤ 10) {g o : Nat} (hg : g < n) (h4 : K 5 g = nI o) (ho : o < 10) : o < n ∧ o ≠ g ∧ K 4 o = nI g := by
  rcases (hC g hg).2 with h | ⟨o2, h1, h2, h3, h5⟩
  · rw [h] at h4
    exact absurd h4 (by rw [pu_mI_nI (by omega)]; exact fun q => q)
  · rw [h3] at h4
    have := pu_eqE (by omega) (by omega) h4
    subst this
    exact ⟨h1, h2, h5⟩
theorem wc_own {n : Nat} {K : RK} (hC : IvC n K) (hn : n ≤ 10) {g : Nat} (hg : g < n) (h : wc K g = nI g) : K 4 g = mI ∧ K 5 g = mI := by
  unfold wc at h
  rcases (hC g hg).1 with h4 | ⟨o, h1, h2, h3, h5⟩
  · rw [if_pos h4] at h
    refine ⟨h4, ?_⟩
    by_cases h6 : K 5 g = mI
    · exact h6
    · rw [if_neg h6, pu_mI_nI (by omega)] at h
      exact absurd h (fun q => q)
  · rw [h3, if_neg (by rw [pu_nI_mI (by omega)]; exact fun q => q)] at h
    exact absurd (pu_eqE (by omega) (by omega) h) h2
theorem wc_cases {n : Nat} {K : RK} (hC : IvC n K) {g : Nat} (hg : g < n) : wc K g = mI ∨ ∃ o : Nat, o < n ∧ wc K g = nI o := by
  unfold wc
  rcases (hC g hg).1 with h4 | ⟨o, h1, h2, h3, h5⟩
  · rw [if_pos h4]
    by_cases h6 : K 5 g = mI
    · rw [if_pos h6]
      exact Or.inr ⟨g, hg, rfl⟩
    · rw [if_neg h6]
      exact Or.inl rfl
  · by_cases h6 : K 4 g = mI
    · rw [if_pos h6]
      by_cases h7 : K 5 g = mI
      · rw [if_pos h7]
        exact Or.inr ⟨g, hg, rfl⟩
      · rw [if_neg h7]
        exact Or.inl rfl
    · rw [if_neg h6, h3]
      exact Or.inr ⟨o, h1, rfl⟩
theorem P_lend {B n : Nat} {l : Nat → Nat} {K : RK} {w : Nat → Int32} (h : Rel B n l K w) {a b : Nat} (ha : a < n) (hb : b < n) (hab : a ≠ b) (h1 : K 4 a = mI) (h2 : K 5 a = mI) (h3 : K 4 b = mI) : Rel B n l (upR (upR K 5 (upd (K 5) a (nI b))) 4 (upd (K 4) b (nI a))) (upd (upd w (16 + 7 * a + 4) mI) (16 + 7 * b + 4) (nI a)) := by
  obtain ⟨hS, hG, hC, hL, hs, aG, aL⟩ := h
  have hn : n ≤ 10 := hS.1
  refine ⟨hS, hG, ?_, hL, ?_, ?_, ?_⟩
  · intro j hj
    simp (disch := omega) only [pu_Rs, pu_Rn]
    refine ⟨?_, ?_⟩
    · by_cases e : j = b
      · subst e
        right
        refine ⟨a, ha, hab, pu_us rfl, ?_⟩
        rw [pu_us rfl]
      · rw [pu_un e]
        rcases (hC j hj).1 with h4 | ⟨o, q1, q2, q3, q4⟩
        · exact Or.inl h4
        · right
          refine ⟨o, q1, q2, q3, ?_⟩
          rw [pu_un ?_]
          · exact q4
          · intro e2
            subst e2
            rw [h2, pu_mI_nI (by omega)] at q4
            exact q4
    · by_cases e : j = a
      · subst e
        right
        refine ⟨b, hb, fun q => hab q.symm, pu_us rfl, ?_⟩
        rw [pu_us rfl]
      · rw [pu_un e]
        rcases (hC j hj).2 with h4 | ⟨o, q1, q2, q3, q4⟩
        · exact Or.inl h4
        · right
          refine ⟨o, q1, q2, q3, ?_⟩
          rw [pu_un ?_]
          · exact q4
          · intro e2
            subst e2
            rw [h3, pu_mI_nI (by omega)] at q4
            exact q4
  · unfold AgS at hs ⊢
    simp (disch := omega) only [pu_Rn, pu_un]
    exact hs
  · intro j hj
    have hk := aG j hj
    simp (disch := omega) only [pu_Rs, pu_Rn, pu_un]
    refine ⟨hk.1, hk.2.1, hk.2.2.1, hk.2.2.2.1, ?_, hk.2.2.2.2.2⟩
    unfold wc
    simp (disch := omega) only [pu_Rs, pu_Rn]
    by_cases e : j = b
    · subst e
      rw [pu_us rfl, pu_us rfl, if_neg (by rw [pu_nI_mI (by omega)]; exact fun q => q)]
    · rw [pu_un (by omega), pu_un e]
      by_cases e2 : j = a
      · subst e2
        rw [pu_us rfl, if_pos h1, pu_us rfl, if_neg (by rw [pu_nI_mI (by omega)]; exact fun q => q)]
      · rw [pu_un (by omega), pu_un e2]
        exact hk.2.2.2.2.1
  · intro d hd
    refine ⟨?_, fun k hk => ?_⟩
    · rw [pu_un (by omega), pu_un (by omega)]
      exact (aL d hd).1
    · rw [pu_un (by omega), pu_un (by omega)]
      exact (aL d hd).2 k hk
theorem P_back {B n : Nat} {l : Nat → Nat} {K : RK} {w : Nat → Int32} (h : Rel B n l K w) {g o : Nat} (hg : g < n) (ho : o < 10) (h4 : K 4 g = nI o) : Rel B n l (upR (upR K 4 (upd (K 4) g mI)) 5 (upd (K 5) o mI)) (upd (upd w (16 + 7 * o + 4) (if K 4 o = mI then nI o else K 4 o)) (16 + 7 * g + 4) (if K 5 g = mI then nI g else mI)) := by
  obtain ⟨hS, hG, hC, hL, hs, aG, aL⟩ := h
  have hn : n ≤ 10 := hS.1
  obtain ⟨ho2, hne, h5⟩ := hC.ne hn hg h4 ho
  refine ⟨hS, hG, ?_, hL, ?_, ?_, ?_⟩
  · intro j hj
    simp (disch := omega) only [pu_Rs, pu_Rn]
    refine ⟨?_, ?_⟩
    · by_cases e : j = g
      · subst e
        exact Or.inl (pu_us rfl)
      · rw [pu_un e]
        rcases (hC j hj).1 with q | ⟨x, q1, q2, q3, q4⟩
        · exact Or.inl q
        · right
          refine ⟨x, q1, q2, q3, ?_⟩
          rw [pu_un ?_]
          · exact q4
          · intro e2
            subst e2
            rw [h5] at q4
            exact e (pu_eqE (by omega) (by omega) q4).symm
    · by_cases e : j = o
      · subst e
        exact Or.inl (pu_us rfl)
      · rw [pu_un e]
        rcases (hC j hj).2 with q | ⟨x, q1, q2, q3, q4⟩
        · exact Or.inl q
        · right
          refine ⟨x, q1, q2, q3, ?_⟩
          rw [pu_un ?_]
          · exact q4
          · intro e2
            subst e2
            rw [h4] at q4
            exact e (pu_eqE (by omega) (by omega) q4).symm
  · unfold AgS at hs ⊢
    simp (disch := omega) only [pu_Rn, pu_un]
    exact hs
  · intro j hj
    have hk := aG j hj
    simp (disch := omega) only [pu_Rs, pu_Rn, pu_un]
    refine ⟨hk.1, hk.2.1, hk.2.2.1, hk.2.2.2.1, ?_, hk.2.2.2.2.2⟩
    unfold wc
    simp (disch := omega) only [pu_Rs, pu_Rn]
    by_cases e : j = g
    · subst e
      rw [pu_us rfl, pu_us rfl, if_pos rfl, pu_un (by omega)]
    · rw [pu_un (by omega), pu_un e]
      by_cases e2 : j = o
      · subst e2
        rw [pu_us rfl, pu_us rfl, if_pos rfl]
      · rw [pu_un (by omega), pu_un e2]
        exact hk.2.2.2.2.1
  · intro d hd
    refine ⟨?_, fun k hk => ?_⟩
    · rw [pu_un (by omega), pu_un (by omega)]
      exact (aL d hd).1
    · rw [pu_un (by omega), pu_un (by omega)]
      exact (aL d hd).2 k hk
theorem pigeon : ∀ (n L : Nat) (f : Nat → Nat), (∀ i, i < L → f i < n) → (∀ i j, i < L → j < L → f i = f j → i = j) → L ≤ n := by
  intro n
  induction n with
  | zero =>
    intro L f h1 _
    rcases Nat.eq_zero_or_pos L with h | h
    · omega
    · have := h1 0 h
      omega
  | succ n ih =>
    intro L f h1 h2
    rcases Nat.eq_zero_or_pos L with h | h
    · omega
    · by_cases hx : ∃ i, i < L ∧ f i = n
      · obtain ⟨i, hi, e⟩ := hx
        have := ih (L - 1) (fun j => if j < i then f j else f (j + 1)) (by
          intro j hj
          show (if j < i then f j else f (j + 1)) < n
          by_cases c : j < i
          · rw [if_pos c]
            have := h1 j (by omega)
            have : f j ≠ n := fun q => by
              have := h2 j i (by omega) hi (q.trans e.symm)
              omega
            omega
          · rw [if_neg c]
            have := h1 (j + 1) (by omega)
            have : f (j + 1) ≠ n := fun q => by
              have := h2 (j + 1) i (by omega) hi (q.trans e.symm)
              omega
            omega) (by
          intro j k hj hk q
          change (if j < i then f j else f (j + 1)) = (if k < i then f k else f (k + 1)) at q
          by_cases c : j < i
          · rw [if_pos c] at q
            by_cases d : k < i
            · rw [if_pos d] at q
              exact h2 j k (by omega) (by omega) q
            · rw [if_neg d] at q
              have := h2 j (k + 1) (by omega) (by omega) q
              omega
          · rw [if_neg c] at q
            by_cases d : k < i
            · rw [if_pos d] at q
              have := h2 (j + 1) k (by omega) (by omega) q
              omega
            · rw [if_neg d] at q
              have := h2 (j + 1) (k + 1) (by omega) (by omega) q
              omega)
        omega
      · have := ih L f (by
          intro j hj
          have := h1 j hj
          have : f j ≠ n := fun q => hx ⟨j, hj, q⟩
          omega) h2
        omega
theorem IvL.len {n : Nat} {l : Nat → Nat} {K : RK} (hL : IvL n l K) (hn : n ≤ 10) {c : Nat} (hc : c < 3) : l c ≤ n := by
  refine pigeon n (l c) (fun k => (K 8 (c * 10 + k)).toNatClampNeg) ?_ ?_
  · intro k hk
    obtain ⟨x, hx, e⟩ := hL.2.1 c hc k hk
    show (K 8 (c * 10 + k)).toNatClampNeg < n
    rw [e, nI_clamp (by omega)]
    exact hx
  · intro i j hi hj e
    obtain ⟨x, hx, e1⟩ := hL.2.1 c hc i hi
    obtain ⟨y, hy, e2⟩ := hL.2.1 c hc j hj
    change (K 8 (c * 10 + i)).toNatClampNeg = (K 8 (c * 10 + j)).toNatClampNeg at e
    rw [e1, e2, nI_clamp (by omega), nI_clamp (by omega)] at e
    exact (hL.2.2.2 c hc i hi c hc j hj (by rw [e1, e2, e])).2
