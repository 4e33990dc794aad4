/-! the pure part: the whole text is read -/
theorem e_2 {s : Nat} (h : 48 ≤ s ∧ s ≤ 57) : eb 2 s = 3 := if_pos h
theorem e_2n {s : Nat} (h : ¬ (48 ≤ s ∧ s ≤ 57)) : eb 2 s = 0 := if_neg h
theorem e_3 : eb 3 62 = 4 := rfl
theorem e_3n {s : Nat} (h : s ≠ 62) : eb 3 s = 0 := if_neg h
theorem e_4 {s : Nat} (h : 48 ≤ s ∧ s ≤ 50) : eb 4 s = 12 := if_pos h
theorem e_4n {s : Nat} (h : ¬ (48 ≤ s ∧ s ≤ 50)) : eb 4 s = 0 := if_neg h
theorem e_5 {s : Nat} (h : 48 ≤ s ∧ s ≤ 50) : eb 5 s = 6 := if_pos h
theorem e_5n {s : Nat} (h : ¬ (48 ≤ s ∧ s ≤ 50)) : eb 5 s = 0 := if_neg h
theorem e_6n {s : Nat} (h : s ≠ 42) (h2 : s ≠ 59) : eb 6 s = 0 := (if_neg h).trans (if_neg h2)
theorem e_7 {s : Nat} (h : 50 ≤ s ∧ s ≤ 57) : eb 7 s = 12 := (if_neg (show ¬ s = 49 by omega)).trans (if_pos h)
theorem e_7n {s : Nat} (h : ¬ (49 ≤ s ∧ s ≤ 57)) : eb 7 s = 0 := (if_neg (show ¬ s = 49 by omega)).trans (if_neg (by omega))
theorem e_8n {s : Nat} (h : s ≠ 48) (h2 : s ≠ 59) : eb 8 s = 0 := (if_neg h).trans (if_neg h2)
theorem e_9 {s : Nat} (h : 48 ≤ s ∧ s ≤ 57) : eb 9 s = 10 := if_pos h
theorem e_9n {s : Nat} (h : ¬ (48 ≤ s ∧ s ≤ 57)) : eb 9 s = 0 := if_neg h
theorem e_10n {s : Nat} (h : s ≠ 62) : eb 10 s = 0 := if_neg h
theorem e_11 {s : Nat} (h : 48 ≤ s ∧ s ≤ 57) : eb 11 s = 12 := if_pos h
theorem e_11n {s : Nat} (h : ¬ (48 ≤ s ∧ s ≤ 57)) : eb 11 s = 0 := if_neg h
theorem e_12n {s : Nat} (h : s ≠ 59) : eb 12 s = 0 := if_neg h
theorem e_1n {s : Nat} (h1 : s ≠ 36) (h2 : s ≠ 94) (h3 : s ≠ 108) (h4 : s ≠ 109) (h5 : s ≠ 111) (h6 : s ≠ 113) : eb 1 s = 0 := (if_neg h1).trans ((if_neg h2).trans ((if_neg h3).trans ((if_neg h4).trans ((if_neg h5).trans (if_neg h6)))))
def GO (S : Nat → Nat) (T a i b j : Nat) : Prop := fw S (T - i) a i = fw S (T - j) b j ∧ okk S (T - i) a i = okk S (T - j) b j
theorem GO.one {S : Nat → Nat} {T a j b : Nat} (hS : ∀ i, T ≤ i → S i = 0) (hj : j ≤ T) (h : eb a (S j) = b) (hb : b ≠ 0) : GO S T a j b (j + 1) := by
  have := fw_step hS hj (by rw [h]; exact hb)
  rw [h] at this
  exact this.2
theorem GO.trans {S : Nat → Nat} {T a i b j c k : Nat} (h : GO S T a i b j) (h2 : GO S T b j c k) : GO S T a i c k := ⟨h.1.trans h2.1, h.2.trans h2.2⟩
def BAD (S : Nat → Nat) (T a i j : Nat) : Prop := fw S (T - i) a i = j ∧ okk S (T - i) a i = false
theorem GO.bad {S : Nat → Nat} {T a i b j k : Nat} (h : GO S T a i b j) (h2 : BAD S T b j k) : BAD S T a i k := ⟨h.1.trans h2.1, h.2.trans h2.2⟩
def PD (S : Nat → Nat) (i j : Nat) (M2 : MS) : Prop :=
  (S i = 94 ∧ j = i + 1) ∨
  (S i = 111 ∧ ∃ g t : Nat, g < 3 ∧ t ≤ 10 ∧ S (i + 1) = 48 + g ∧ M2.1 3 6 = nI g ∧ M2.1 3 7 = nI t ∧ ((j = i + 2 ∧ S (i + 2) ≠ 42 ∧ t = 1) ∨ (S (i + 2) = 42 ∧ S (i + 3) = 48 + t ∧ 1 ≤ t ∧ t ≤ 9 ∧ j = i + 4) ∨ (S (i + 2) = 42 ∧ S (i + 3) = 49 ∧ S (i + 4) = 48 ∧ t = 10 ∧ j = i + 5))) ∨
  ((S i = 109 ∨ S i = 36) ∧ ∃ g : Nat, g ≤ 9 ∧ S (i + 1) = 48 + g ∧ M2.1 3 6 = nI g ∧ j = i + 2) ∨
  ((S i = 113 ∨ S i = 108) ∧ ∃ g o : Nat, g ≤ 9 ∧ o ≤ 9 ∧ (S i = 113 → o < 3) ∧ S (i + 1) = 48 + g ∧ S (i + 2) = 62 ∧ S (i + 3) = 48 + o ∧ M2.1 3 6 = nI g ∧ M2.1 3 7 = nI o ∧ j = i + 4)
theorem r_part {S : Nat → Nat} {T i : Nat} {M : MS} (h : TX S T i M) : (∃ (j : Nat) (M2 : MS), f_X6_readsPart M = some (nI 0, M2) ∧ TX S T j M2 ∧ EE M M2 ∧ BAD S T 1 i j) ∨ (∃ (j a : Nat) (M2 : MS), f_X6_readsPart M = some (nI 1, M2) ∧ TX S T j M2 ∧ EE M M2 ∧ (a = 12 ∨ a = 6 ∨ a = 8) ∧ GO S T 1 i a j ∧ (S j ≠ 59 → eb a (S j) = 0) ∧ M2.1 3 5 = nI (S i) ∧ PD S i j M2) := by
  have hS := h.2.2.2.2.2.1
  have hs := h.2.2.2.2.2.2 i
  have hi := h.1
  obtain ⟨Ma, hMa⟩ : ∃ Ma, Ma = upMS M 3 5 (nI (S i)) := ⟨_, rfl⟩
  have ta : TX S T i Ma := by rw [hMa]; exact h.up (by omega) _
  have eA : EE M Ma := by rw [hMa]; exact EE.up M (by omega) _
  have a5 : Ma.1 3 5 = nI (S i) := by rw [hMa, up_s]
  have z0 : nI 0 = 0 := rfl
  unfold f_X6_readsPart
  rw [r_sign h, pu_bnd, ← hMa, pu_nm]
  by_cases q1 : S i = 94
  · right
    have hiT := h.lt (j := i) (by omega)
    have y1 : f_X6_takes Ma 94 = some (nI 1, upMS Ma 3 4 (nI (i + 1))) := r_yes ta q1
    refine ⟨i + 1, 12, upMS Ma 3 4 (nI (i + 1)), ?_, ta.nx (by omega), eA.trans (EE.up _ (by omega) _), Or.inl rfl, GO.one hS hi (by rw [q1]; rfl) (by omega), fun q => e_12n q, by rw [up_n (by omega), a5], Or.inl ⟨q1, rfl⟩⟩
    rw [y1, pu_bnd2, if_neg n10]
    rfl
  have y1 : f_X6_takes Ma 94 = some (nI 0, Ma) := r_no ta (c := 94) (by omega) q1
  rw [y1, pu_bnd2, if_pos z0]
  by_cases q2 : S i = 111
  · have hiT := h.lt (j := i) (by omega)
    have y2 : f_X6_takes Ma 111 = some (nI 1, upMS Ma 3 4 (nI (i + 1))) := r_yes ta q2
    have tb : TX S T (i + 1) (upMS Ma 3 4 (nI (i + 1))) := ta.nx (by omega)
    have g1 : GO S T 1 i 5 (i + 1) := GO.one hS hi (by rw [q2]; rfl) (by omega)
    rw [y2, pu_bnd2, if_neg n10]
    by_cases p1 : 48 + 0 ≤ S (i + 1) ∧ S (i + 1) ≤ 48 + 2
    · have hi2 := h.lt (j := i + 1) (by omega)
      have y3 : f_X6_figure (upMS Ma 3 4 (nI (i + 1))) 0 2 = some (nI (S (i + 1) - 48), upMS (upMS Ma 3 4 (nI (i + 1))) 3 4 (nI (i + 1 + 1))) := r_fyes tb (a := 0) (b := 2) (by omega) (by omega) p1
      have g2 : GO S T 1 i 6 (i + 1 + 1) := g1.trans (GO.one hS (by omega) (e_5 (by omega)) (by omega))
      rw [y3, pu_bnd2, pu_nm, up_s, pu_m1, if_neg (nI_nm (by omega))]
      obtain ⟨Mb, hMb⟩ : ∃ Mb, Mb = upMS (upMS (upMS Ma 3 4 (nI (i + 1))) 3 4 (nI (i + 1 + 1))) 3 6 (nI (S (i + 1) - 48)) := ⟨_, rfl⟩
      have tc : TX S T (i + 1 + 1) Mb := by rw [hMb]; exact (tb.nx (by omega)).up (by omega) _
      have eB : EE M Mb := by rw [hMb]; exact eA.trans ((EE.up _ (by omega) _).trans ((EE.up _ (by omega) _).trans (EE.up _ (by omega) _)))
      have b5 : Mb.1 3 5 = nI (S i) := by rw [hMb, up_n (by omega), up_n (by omega), up_n (by omega), a5]
      have b6 : Mb.1 3 6 = nI (S (i + 1) - 48) := by rw [hMb, up_s]
      rw [← hMb]
      rcases r_often tc with ⟨t, j, M2, o1, o2, o3, o4, o5, o6, o7⟩ | ⟨M2, o1, o2, o3, o4, o5⟩
      · right
        have o1' := o1
        refine ⟨j, (if j = i + 2 then 6 else if t = 1 then 8 else 12), M2, ?_, o2, eB.trans o3, ?_, ?_, ?_, by rw [o4, b5], Or.inr (Or.inl ⟨q2, S (i + 1) - 48, t, by omega, by omega, by omega, by rw [o5, b6], o6, ?_⟩)⟩
        · rw [o1, pu_bnd2, if_neg n10]
          rfl
        · split
          · omega
          · split <;> omega
        · rcases o7 with ⟨w1, w2, w3⟩ | ⟨w1, w2, w3, w4, w5, w6⟩ | ⟨w1, w2, w3, w4, w5⟩
          · rw [if_pos (by omega), w1]
            exact g2
          · have g3 : GO S T 1 i 7 (i + 1 + 1 + 1) := g2.trans (GO.one hS (by omega) (by rw [w1]; rfl) (by omega))
            have hi4 := h.lt (j := i + 1 + 1 + 1) (by omega)
            rw [if_neg (by omega), w5]
            by_cases w7 : t = 1
            · rw [if_pos w7]
              exact g3.trans (GO.one hS (by omega) (by rw [w2, w7]; rfl) (by omega))
            · rw [if_neg w7]
              exact g3.trans (GO.one hS (by omega) (e_7 (by omega)) (by omega))
          · have g3 : GO S T 1 i 7 (i + 1 + 1 + 1) := g2.trans (GO.one hS (by omega) (by rw [w1]; rfl) (by omega))
            have hi4 := h.lt (j := i + 1 + 1 + 1) (by omega)
            have g4 : GO S T 1 i 8 (i + 1 + 1 + 1 + 1) := g3.trans (GO.one hS (by omega) (by rw [w2]; rfl) (by omega))
            have hi5 := h.lt (j := i + 1 + 1 + 1 + 1) (by rw [show i + 1 + 1 + 1 + 1 = i + 1 + 1 + 1 + 1 from rfl]; omega)
            rw [if_neg (by omega), if_neg (by omega), w5]
            exact g4.trans (GO.one hS (by omega) (by rw [w3]; rfl) (by omega))
        · intro hne
          rcases o7 with ⟨w1, w2, w3⟩ | ⟨w1, w2, w3, w4, w5, w6⟩ | ⟨w1, w2, w3, w4, w5⟩
          · rw [if_pos (by omega)]
            exact e_6n (by rw [w1]; exact w2) hne
          · rw [if_neg (by omega)]
            by_cases w7 : t = 1
            · rw [if_pos w7]
              refine e_8n ?_ hne
              rcases w6 with w8 | w8
              · omega
              · rw [w5]
                exact w8
            · rw [if_neg w7]
              exact e_12n hne
          · rw [if_neg (by omega), if_neg (by omega)]
            exact e_12n hne
        · rcases o7 with ⟨w1, w2, w3⟩ | ⟨w1, w2, w3, w4, w5, w6⟩ | ⟨w1, w2, w3, w4, w5⟩
          · exact Or.inl ⟨w1, w2, w3⟩
          · exact Or.inr (Or.inl ⟨w1, w2, w3, w4, w5⟩)
          · exact Or.inr (Or.inr ⟨w1, w2, w3, w4, w5⟩)
      · left
        have g3 : GO S T 1 i 7 (i + 1 + 1 + 1) := g2.trans (GO.one hS (by omega) (by rw [o4]; rfl) (by omega))
        refine ⟨i + 1 + 1 + 1, M2, ?_, o2, eB.trans o3, g3.bad (fw_fail o2.1 (e_7n o5) (Or.inl (by omega)))⟩
        rw [o1, pu_bnd2, if_pos z0]
        rfl
    · left
      have y3 : f_X6_figure (upMS Ma 3 4 (nI (i + 1))) 0 2 = some (mI, upMS Ma 3 4 (nI (i + 1))) := r_fno tb (a := 0) (b := 2) (by omega) (by omega) p1
      refine ⟨i + 1, upMS (upMS Ma 3 4 (nI (i + 1))) 3 6 mI, ?_, tb.up (by omega) _, eA.trans ((EE.up _ (by omega) _).trans (EE.up _ (by omega) _)), g1.bad (fw_fail (by omega) (e_5n (by omega)) (Or.inl (by omega)))⟩
      rw [y3, pu_bnd2, pu_nm, up_s, pu_m1, if_pos rfl]
      rfl
  have y2 : f_X6_takes Ma 111 = some (nI 0, Ma) := r_no ta (c := 111) (by omega) q2
  rw [y2, pu_bnd2, if_pos z0]
  by_cases q3 : S i = 109 ∨ S i = 36
  · have hiT := h.lt (j := i) (by omega)
    have tb : TX S T (i + 1) (upMS Ma 3 4 (nI (i + 1))) := ta.nx (by omega)
    have g1 : GO S T 1 i 11 (i + 1) := GO.one hS hi (by rcases q3 with q | q <;> rw [q] <;> rfl) (by omega)
    have key : (bnd2 (f_X6_takes Ma 109) (fun r7 M8 => (if r7 = 0 then bnd2 (f_X6_takes M8 36) (fun r9 M10 => (if r9 = 0 then bnd2 (f_X6_takes M10 113) (fun r11 M12 => (if r11 = 0 then bnd2 (f_X6_takes M12 108) (fun r13 M14 => (if r13 = 0 then f_X6_readsPart_b132 M14 (-1) else f_X6_readsPart_b121 M14)) else f_X6_readsPart_b121 M12)) else f_X6_readsPart_b77 M10)) else f_X6_readsPart_b77 M8))) = f_X6_readsPart_b77 (upMS Ma 3 4 (nI (i + 1))) := by
      by_cases q : S i = 109
      · have y3 : f_X6_takes Ma 109 = some (nI 1, upMS Ma 3 4 (nI (i + 1))) := r_yes ta q
        rw [y3, pu_bnd2, if_neg n10]
      · have y3 : f_X6_takes Ma 109 = some (nI 0, Ma) := r_no ta (c := 109) (by omega) q
        have y4 : f_X6_takes Ma 36 = some (nI 1, upMS Ma 3 4 (nI (i + 1))) := r_yes ta (c := 36) (by omega)
        rw [y3, pu_bnd2, if_pos z0, y4, pu_bnd2, if_neg n10]
    rw [key]
    rcases r_b77 tb with ⟨g, M2, b1, b2, b3, b4, b5, b6, b7⟩ | ⟨b1, M2, b2, b3, b4⟩
    · right
      have hi2 := h.lt (j := i + 1) (by omega)
      refine ⟨i + 1 + 1, 12, M2, b3, b4, eA.trans ((EE.up _ (by omega) _).trans b5), Or.inl rfl, g1.trans (GO.one hS (by omega) (e_11 (by omega)) (by omega)), fun q => e_12n q, by rw [b6, up_n (by omega), a5], Or.inr (Or.inr (Or.inl ⟨q3, g, b1, b2, b7, rfl⟩))⟩
    · left
      exact ⟨i + 1, M2, b2, b3, eA.trans ((EE.up _ (by omega) _).trans b4), g1.bad (fw_fail (by omega) (e_11n b1) (Or.inl (by omega)))⟩
  have y3 : f_X6_takes Ma 109 = some (nI 0, Ma) := r_no ta (c := 109) (by omega) (by omega)
  have y4 : f_X6_takes Ma 36 = some (nI 0, Ma) := r_no ta (c := 36) (by omega) (by omega)
  rw [y3, pu_bnd2, if_pos z0, y4, pu_bnd2, if_pos z0]
  by_cases q4 : S i = 113 ∨ S i = 108
  · have hiT := h.lt (j := i) (by omega)
    have tb : TX S T (i + 1) (upMS Ma 3 4 (nI (i + 1))) := ta.nx (by omega)
    have key : (bnd2 (f_X6_takes Ma 113) (fun r11 M12 => (if r11 = 0 then bnd2 (f_X6_takes M12 108) (fun r13 M14 => (if r13 = 0 then f_X6_readsPart_b132 M14 (-1) else f_X6_readsPart_b121 M14)) else f_X6_readsPart_b121 M12))) = f_X6_readsPart_b121 (upMS Ma 3 4 (nI (i + 1))) := by
      by_cases q : S i = 113
      · have y3 : f_X6_takes Ma 113 = some (nI 1, upMS Ma 3 4 (nI (i + 1))) := r_yes ta q
        rw [y3, pu_bnd2, if_neg n10]
      · have y3 : f_X6_takes Ma 113 = some (nI 0, Ma) := r_no ta (c := 113) (by omega) q
        have y4 : f_X6_takes Ma 108 = some (nI 1, upMS Ma 3 4 (nI (i + 1))) := r_yes ta (c := 108) (by omega)
        rw [y3, pu_bnd2, if_pos z0, y4, pu_bnd2, if_neg n10]
    rw [key]
    obtain ⟨A, B, C, g1, hA, hB, hA1, hB1, hC1, hC2⟩ : ∃ A B C : Nat, GO S T 1 i A (i + 1) ∧ (∀ s, 48 ≤ s ∧ s ≤ 57 → eb A s = B) ∧ (eb B 62 = C) ∧ (∀ s, ¬ (48 ≤ s ∧ s ≤ 57) → eb A s = 0) ∧ (∀ s, s ≠ 62 → eb B s = 0) ∧ (∀ s, 48 ≤ s ∧ s ≤ 48 + (if S i = 113 then 2 else 9) → eb C s = 12) ∧ (∀ s, ¬ (48 ≤ s ∧ s ≤ 48 + (if S i = 113 then 2 else 9)) → eb C s = 0) ∧ (A ≠ 12 ∧ A ≠ 6 ∧ A ≠ 8 ∧ A ≠ 0) ∧ (B ≠ 12 ∧ B ≠ 6 ∧ B ≠ 8 ∧ B ≠ 0) ∧ (C ≠ 12 ∧ C ≠ 6 ∧ C ≠ 8 ∧ C ≠ 0) := by
      by_cases q : S i = 113
      · rw [if_pos q]
        exact ⟨2, 3, 4, GO.one hS hi (by rw [q]; rfl) (by omega), fun s hs => e_2 hs, rfl, fun s hs => e_2n hs, fun s hs => e_3n hs, fun s hs => e_4 hs, fun s hs => e_4n hs, by omega, by omega, by omega⟩
      · have q5 : S i = 108 := by omega
        rw [if_neg q]
        exact ⟨9, 10, 11, GO.one hS hi (by rw [q5]; rfl) (by omega), fun s hs => e_9 hs, rfl, fun s hs => e_9n hs, fun s hs => e_10n hs, fun s hs => e_11 hs, fun s hs => e_11n hs, by omega, by omega, by omega⟩
    obtain ⟨hC3, kA, kB, kC⟩ : (∀ s, ¬ (48 ≤ s ∧ s ≤ 48 + (if S i = 113 then 2 else 9)) → eb C s = 0) ∧ (A ≠ 12 ∧ A ≠ 6 ∧ A ≠ 8 ∧ A ≠ 0) ∧ (B ≠ 12 ∧ B ≠ 6 ∧ B ≠ 8 ∧ B ≠ 0) ∧ (C ≠ 12 ∧ C ≠ 6 ∧ C ≠ 8 ∧ C ≠ 0) := hC2
    rcases r_b121 tb (x := S i) (by rw [up_n (by omega), a5]) hs with ⟨g, o, M2, b1, b2, b3, b4, b5, b6, b7, b8, b9, b10, b11⟩ | ⟨j, M2, b1, b2, b3, b4⟩
    · right
      have hi2 := h.lt (j := i + 1) (by omega)
      have hi3 := h.lt (j := i + 1 + 1) (by omega)
      have hi4 := h.lt (j := i + 1 + 1 + 1) (by omega)
      have g2 := g1.trans (GO.one hS (by omega) (hA (S (i + 1)) (by omega)) kB.2.2.2)
      have g3 := g2.trans (GO.one hS (by omega) (by rw [b4]; exact hB) kC.2.2.2)
      have g4 := g3.trans (GO.one hS (by omega) (hC1 (S (i + 1 + 1 + 1)) (by omega)) (show 12 ≠ 0 by omega))
      have ho9 : o ≤ 9 := by
        revert b2
        split <;> omega
      refine ⟨i + 1 + 1 + 1 + 1, 12, M2, b6, b7, eA.trans ((EE.up _ (by omega) _).trans b8), Or.inl rfl, g4, fun q => e_12n q, b9, Or.inr (Or.inr (Or.inr ⟨q4, g, o, b1, ho9, ?_, b3, b4, b5, b10, b11, rfl⟩))⟩
      intro q
      rw [if_pos q] at b2
      omega
    · left
      refine ⟨j, M2, b1, b2, eA.trans ((EE.up _ (by omega) _).trans b3), ?_⟩
      have hjT := b2.1
      rcases b4 with ⟨w1, w2⟩ | ⟨w1, w2, w3⟩ | ⟨w1, w2, w3, w4⟩
      · subst w1
        exact g1.bad (fw_fail hjT (hA1 _ w2) (Or.inl (by omega)))
      · subst w1
        have hi2 := h.lt (j := i + 1) (by omega)
        have g2 := g1.trans (GO.one hS (by omega) (hA (S (i + 1)) w2) kB.2.2.2)
        exact g2.bad (fw_fail hjT (hB1 _ w3) (Or.inl (by omega)))
      · subst w1
        have hi2 := h.lt (j := i + 1) (by omega)
        have hi3 := h.lt (j := i + 1 + 1) (by omega)
        have g2 := g1.trans (GO.one hS (by omega) (hA (S (i + 1)) w2) kB.2.2.2)
        have g3 := g2.trans (GO.one hS (by omega) (by rw [w3]; exact hB) kC.2.2.2)
        exact g3.bad (fw_fail hjT (hC3 _ w4) (Or.inl (by omega)))
  left
  have y5 : f_X6_takes Ma 113 = some (nI 0, Ma) := r_no ta (c := 113) (by omega) (by omega)
  have y6 : f_X6_takes Ma 108 = some (nI 0, Ma) := r_no ta (c := 108) (by omega) (by omega)
  refine ⟨i, upMS (upMS Ma 3 6 mI) 3 7 mI, ?_, (ta.up (by omega) _).up (by omega) _, eA.trans ((EE.up _ (by omega) _).trans (EE.up _ (by omega) _)), fw_fail hi (e_1n (by omega) q1 (by omega) (by omega) q2 (by omega)) (Or.inl (by omega))⟩
  rw [y5, pu_bnd2, if_pos z0, y6, pu_bnd2, if_pos z0]
  unfold f_X6_readsPart_b132
  rw [pu_m1, pu_nm, up_s, if_pos rfl, r_b176]
theorem r_all {S : Nat → Nat} {T : Nat} : ∀ (k i F : Nat) (M : MS), T - i ≤ k → k < F → TX S T i M → ∃ M2 : MS, f_X6_isCarnival_l5 F M = some (if okk S (T - i) 1 i = true then nI 1 else nI 0, M2) ∧ M2.1 3 4 = nI (fw S (T - i) 1 i) ∧ EE M M2 := by
  intro k
  induction k with
  | zero =>
    intro i F M hk hF h
    obtain ⟨F, rfl⟩ : ∃ q, F = q + 1 := ⟨F - 1, by omega⟩
    rw [show f_X6_isCarnival_l5 (F + 1) M = _ from by unfold f_X6_isCarnival_l5; rfl]
    rcases r_part h with ⟨j, M2, b1, b2, b3, b4⟩ | ⟨j, a, M2, b1, b2, b3, b4, b5, b6, b7, b8⟩
    · refine ⟨M2, ?_, by rw [b4.1]; exact b2.2.2.2.1, b3⟩
      rw [b1, pu_bnd2, if_pos (show nI 0 = 0 from rfl), b4.2]
      rfl
    · exfalso
      have hT := h.1
      have hi : T ≤ i := by omega
      have hz := h.2.2.2.2.2.1 i hi
      rcases b8 with ⟨w, -⟩ | ⟨w, -⟩ | ⟨w, -⟩ | ⟨w, -⟩ <;> omega
  | succ k ih =>
    intro i F M hk hF h
    obtain ⟨F, rfl⟩ : ∃ q, F = q + 1 := ⟨F - 1, by omega⟩
    rw [show f_X6_isCarnival_l5 (F + 1) M = _ from by unfold f_X6_isCarnival_l5; rfl]
    rcases r_part h with ⟨j, M2, b1, b2, b3, b4⟩ | ⟨j, a, M2, b1, b2, b3, b4, b5, b6, b7, b8⟩
    · refine ⟨M2, ?_, by rw [b4.1]; exact b2.2.2.2.1, b3⟩
      rw [b1, pu_bnd2, if_pos (show nI 0 = 0 from rfl), b4.2]
      rfl
    · have hjT := b2.1
      have hT := b2.2.1
      rw [b1, pu_bnd2, if_neg n10, b2.2.2.2.1, b2.2.2.1, b5.1, b5.2]
      by_cases q : j = T
      · subst q
        rw [if_pos rfl, Nat.sub_self]
        refine ⟨M2, ?_, b2.2.2.2.1, b3⟩
        show _ = some (if decide (a = 12 ∨ a = 6 ∨ a = 8) = true then nI 1 else nI 0, M2)
        rw [decide_eq_true b4, if_pos rfl]
        rfl
      · rw [if_neg (by rw [nI_eq (by omega) (by omega)]; exact q)]
        by_cases q2 : S j = 59
        · have y : f_X6_takes M2 59 = some (nI 1, upMS M2 3 4 (nI (j + 1))) := r_yes b2 q2
          have ge : eb a (S j) = 1 := by
            rw [q2]
            rcases b4 with w | w | w <;> subst w <;> rfl
          have g := GO.one (S := S) (T := T) b2.2.2.2.2.2.1 hjT ge (by omega)
          have hij : i < j := by
            rcases b8 with ⟨-, w⟩ | ⟨-, g2, t, -, -, -, -, -, w⟩ | ⟨-, g2, -, -, -, w⟩ | ⟨-, g2, o, -, -, -, -, -, -, -, -, w⟩
            · omega
            · rcases w with ⟨w, -⟩ | ⟨-, -, -, -, w⟩ | ⟨-, -, -, -, w⟩ <;> omega
            · omega
            · omega
          obtain ⟨M3, c1, c2, c3⟩ := ih (j + 1) F _ (by omega) (by omega) (b2.nx (show j + 1 ≤ T by omega))
          refine ⟨M3, ?_, by rw [g.1]; exact c2, b3.trans ((EE.up _ (by omega) _).trans c3)⟩
          rw [y, pu_bnd2, if_neg n10, g.2]
          exact c1
        · have y : f_X6_takes M2 59 = some (nI 0, M2) := r_no b2 (c := 59) (by omega) q2
          have w := fw_fail (S := S) (T := T) hjT (b6 q2) (Or.inr (show j < T by omega))
          refine ⟨M2, ?_, by rw [w.1]; exact b2.2.2.2.1, b3⟩
          rw [y, pu_bnd2, if_pos (show nI 0 = 0 from rfl), w.2]
          rfl
