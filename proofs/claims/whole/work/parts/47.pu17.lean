/-! the pure part: a part is read -/
theorem up_s {M : MS} {q : Nat} {v : Int32} : (upMS M 3 q v).1 3 q = v := by
  rw [pu_MS, pu_M1, pu_Rs, pu_us rfl]
theorem up_n {M : MS} {p q : Nat} {v : Int32} (h : p ≠ q) : (upMS M 3 q v).1 3 p = M.1 3 p := by
  rw [pu_MS, pu_M1, pu_Rs, pu_un h]
theorem TX.lt {S : Nat → Nat} {T i : Nat} {M : MS} (h : TX S T i M) {j : Nat} (hj : S j ≠ 0) : j < T := by
  rcases Nat.lt_or_ge j T with q | q
  · exact q
  · exact absurd (h.2.2.2.2.2.1 j q) hj
theorem m10 : ¬ (nI 1 = mI) := nI_nm (by omega)
theorem r_b77 {S : Nat → Nat} {T i : Nat} {M : MS} (h : TX S T i M) : (∃ (g : Nat) (M2 : MS), g ≤ 9 ∧ S i = 48 + g ∧ f_X6_readsPart_b77 M = some (nI 1, M2) ∧ TX S T (i + 1) M2 ∧ EE M M2 ∧ M2.1 3 5 = M.1 3 5 ∧ M2.1 3 6 = nI g) ∨ (¬ (48 ≤ S i ∧ S i ≤ 57) ∧ ∃ M2 : MS, f_X6_readsPart_b77 M = some (nI 0, M2) ∧ TX S T i M2 ∧ EE M M2) := by
  unfold f_X6_readsPart_b77
  by_cases q : 48 + 0 ≤ S i ∧ S i ≤ 48 + 9
  · left
    have hiT := h.lt (j := i) (by omega)
    have y : f_X6_figure M 0 9 = some (nI (S i - 48), upMS M 3 4 (nI (i + 1))) := r_fyes h (a := 0) (b := 9) (by omega) (by omega) q
    refine ⟨S i - 48, upMS (upMS M 3 4 (nI (i + 1))) 3 6 (nI (S i - 48)), by omega, by omega, ?_, (h.nx (by omega)).up (by omega) _, (EE.up M (by omega) _).trans (EE.up _ (by omega) _), ?_, up_s⟩
    · rw [y, pu_bnd2, pu_nm, up_s, pu_m1, if_neg (nI_nm (by omega))]
      rfl
    · rw [up_n (by omega), up_n (by omega)]
  · right
    have y : f_X6_figure M 0 9 = some (mI, M) := r_fno h (a := 0) (b := 9) (by omega) (by omega) q
    refine ⟨by omega, upMS M 3 6 mI, ?_, h.up (by omega) _, EE.up M (by omega) _⟩
    rw [y, pu_bnd2, pu_nm, up_s, pu_m1, if_pos rfl]
    rfl
theorem r_b170 {S : Nat → Nat} {T i hi : Nat} {M : MS} (h : TX S T i M) (hh : hi ≤ 9) : (∃ (o : Nat) (M2 : MS), o ≤ hi ∧ S i = 48 + o ∧ f_X6_readsPart_b170 M (nI hi) 0 = some (nI 1, M2) ∧ TX S T (i + 1) M2 ∧ EE M M2 ∧ M2.1 3 5 = M.1 3 5 ∧ M2.1 3 6 = M.1 3 6 ∧ M2.1 3 7 = nI o) ∨ (¬ (48 ≤ S i ∧ S i ≤ 48 + hi) ∧ ∃ M2 : MS, f_X6_readsPart_b170 M (nI hi) 0 = some (nI 0, M2) ∧ TX S T i M2 ∧ EE M M2) := by
  unfold f_X6_readsPart_b170 f_X6_readsPart_b177
  by_cases q : 48 + 0 ≤ S i ∧ S i ≤ 48 + hi
  · left
    have hiT := h.lt (j := i) (by omega)
    have y : f_X6_figure M 0 (nI hi) = some (nI (S i - 48), upMS M 3 4 (nI (i + 1))) := r_fyes h (a := 0) (b := hi) (by omega) (by omega) q
    refine ⟨S i - 48, upMS (upMS M 3 4 (nI (i + 1))) 3 7 (nI (S i - 48)), by omega, by omega, ?_, (h.nx (by omega)).up (by omega) _, (EE.up M (by omega) _).trans (EE.up _ (by omega) _), ?_, ?_, up_s⟩
    · rw [y, pu_bnd2, pu_nm, up_s, pu_m1, if_neg (nI_nm (by omega))]
      rfl
    · rw [up_n (by omega), up_n (by omega)]
    · rw [up_n (by omega), up_n (by omega)]
  · right
    have y : f_X6_figure M 0 (nI hi) = some (mI, M) := r_fno h (a := 0) (b := hi) (by omega) (by omega) q
    refine ⟨by omega, upMS M 3 7 mI, ?_, h.up (by omega) _, EE.up M (by omega) _⟩
    rw [y, pu_bnd2, pu_nm, up_s, pu_m1, if_pos rfl]
    rfl
theorem r_b176 (M : MS) : f_X6_readsPart_b176 M = some (nI 0, upMS M 3 7 mI) := by
  unfold f_X6_readsPart_b176 f_X6_readsPart_b177
  rw [pu_nm, pu_m1, up_s, if_pos rfl]
  rfl
theorem r_b121 {S : Nat → Nat} {T i x : Nat} {M : MS} (h : TX S T i M) (hx : M.1 3 5 = nI x) (hxx : x ≤ 126) : (∃ (g o : Nat) (M2 : MS), g ≤ 9 ∧ o ≤ (if x = 113 then 2 else 9) ∧ S i = 48 + g ∧ S (i + 1) = 62 ∧ S (i + 1 + 1) = 48 + o ∧ f_X6_readsPart_b121 M = some (nI 1, M2) ∧ TX S T (i + 1 + 1 + 1) M2 ∧ EE M M2 ∧ M2.1 3 5 = nI x ∧ M2.1 3 6 = nI g ∧ M2.1 3 7 = nI o) ∨ (∃ (j : Nat) (M2 : MS), f_X6_readsPart_b121 M = some (nI 0, M2) ∧ TX S T j M2 ∧ EE M M2 ∧ ((j = i ∧ ¬ (48 ≤ S i ∧ S i ≤ 57)) ∨ (j = i + 1 ∧ (48 ≤ S i ∧ S i ≤ 57) ∧ S (i + 1) ≠ 62) ∨ (j = i + 1 + 1 ∧ (48 ≤ S i ∧ S i ≤ 57) ∧ S (i + 1) = 62 ∧ ¬ (48 ≤ S (i + 1 + 1) ∧ S (i + 1 + 1) ≤ 48 + (if x = 113 then 2 else 9))))) := by
  unfold f_X6_readsPart_b121 f_X6_readsPart_b132
  by_cases q : 48 + 0 ≤ S i ∧ S i ≤ 48 + 9
  · have hiT := h.lt (j := i) (by omega)
    have y : f_X6_figure M 0 9 = some (nI (S i - 48), upMS M 3 4 (nI (i + 1))) := r_fyes h (a := 0) (b := 9) (by omega) (by omega) q
    rw [y, pu_bnd2, pu_nm, up_s, pu_m1, if_neg (nI_nm (by omega))]
    obtain ⟨Mb, hMb⟩ : ∃ Mb, Mb = upMS (upMS M 3 4 (nI (i + 1))) 3 6 (nI (S i - 48)) := ⟨_, rfl⟩
    have tb : TX S T (i + 1) Mb := by rw [hMb]; exact (h.nx (by omega)).up (by omega) _
    have eB : EE M Mb := by rw [hMb]; exact (EE.up M (by omega) _).trans (EE.up _ (by omega) _)
    have b5 : Mb.1 3 5 = nI x := by rw [hMb, up_n (by omega), up_n (by omega), hx]
    have b6 : Mb.1 3 6 = nI (S i - 48) := by rw [hMb, up_s]
    rw [← hMb]
    by_cases q2 : S (i + 1) = 62
    · have hi2 := h.lt (j := i + 1) (by omega)
      have y2 : f_X6_takes Mb 62 = some (nI 1, upMS Mb 3 4 (nI (i + 1 + 1))) := r_yes tb q2
      have tc : TX S T (i + 1 + 1) (upMS Mb 3 4 (nI (i + 1 + 1))) := tb.nx (by omega)
      rw [y2, pu_bnd2, if_neg n10, up_n (by omega), b5]
      have key : ∀ hi : Nat, hi ≤ 9 → hi = (if x = 113 then 2 else 9) → (if nI x = 113 then f_X6_readsPart_b170 (upMS Mb 3 4 (nI (i + 1 + 1))) 2 0 else f_X6_readsPart_b170 (upMS Mb 3 4 (nI (i + 1 + 1))) 9 0) = f_X6_readsPart_b170 (upMS Mb 3 4 (nI (i + 1 + 1))) (nI hi) 0 := by
        intro hi h1 h2
        by_cases z : x = 113
        · rw [if_pos z] at h2
          rw [if_pos (show nI x = 113 from by rw [z]; rfl), h2]
          rfl
        · rw [if_neg z] at h2
          rw [if_neg (show ¬ nI x = 113 from by rw [pu_i113, nI_eq (by omega) (by omega)]; exact z), h2]
          rfl
      have hh : (if x = 113 then 2 else 9) ≤ 9 := by split <;> omega
      rw [key _ hh rfl]
      rcases r_b170 tc hh with ⟨o, M2, o1, o2, o3, o4, o5, o6, o7, o8⟩ | ⟨n1, M2, n2, n3, n4⟩
      · left
        refine ⟨S i - 48, o, M2, by omega, o1, by omega, q2, o2, o3, o4, (eB.trans (EE.up _ (by omega) _)).trans o5, ?_, ?_, o8⟩
        · rw [o6, up_n (by omega), b5]
        · rw [o7, up_n (by omega), b6]
      · right
        exact ⟨i + 1 + 1, M2, n2, n3, (eB.trans (EE.up _ (by omega) _)).trans n4, Or.inr (Or.inr ⟨rfl, by omega, q2, n1⟩)⟩
    · right
      have y2 : f_X6_takes Mb 62 = some (nI 0, Mb) := r_no tb (c := 62) (by omega) q2
      refine ⟨i + 1, upMS Mb 3 7 mI, ?_, tb.up (by omega) _, eB.trans (EE.up _ (by omega) _), Or.inr (Or.inl ⟨rfl, by omega, q2⟩)⟩
      rw [y2, pu_bnd2, if_pos (show nI 0 = 0 from rfl), r_b176]
  · right
    have y : f_X6_figure M 0 9 = some (mI, M) := r_fno h (a := 0) (b := 9) (by omega) (by omega) q
    refine ⟨i, upMS (upMS M 3 6 mI) 3 7 mI, ?_, (h.up (by omega) _).up (by omega) _, (EE.up M (by omega) _).trans (EE.up _ (by omega) _), Or.inl ⟨rfl, by omega⟩⟩
    rw [y, pu_bnd2, pu_nm, up_s, pu_m1, if_pos rfl, r_b176]
theorem r_b55 {M : MS} {t : Nat} (ht : t < 2 ^ 31) (h : M.1 3 7 = nI t) : f_X6_readsOften_b55 M = some (nI 1, M) := by
  unfold f_X6_readsOften_b55
  rw [h, pu_m1, if_neg (nI_nm ht)]
  rfl
theorem r_often {S : Nat → Nat} {T i : Nat} {M : MS} (h : TX S T i M) : (∃ (t j : Nat) (M2 : MS), f_X6_readsOften M = some (nI 1, M2) ∧ TX S T j M2 ∧ EE M M2 ∧ M2.1 3 5 = M.1 3 5 ∧ M2.1 3 6 = M.1 3 6 ∧ M2.1 3 7 = nI t ∧ ((j = i ∧ S i ≠ 42 ∧ t = 1) ∨ (S i = 42 ∧ S (i + 1) = 48 + t ∧ 1 ≤ t ∧ t ≤ 9 ∧ j = i + 1 + 1 ∧ (t ≠ 1 ∨ S (i + 1 + 1) ≠ 48)) ∨ (S i = 42 ∧ S (i + 1) = 49 ∧ S (i + 1 + 1) = 48 ∧ t = 10 ∧ j = i + 1 + 1 + 1))) ∨ (∃ M2 : MS, f_X6_readsOften M = some (nI 0, M2) ∧ TX S T (i + 1) M2 ∧ EE M M2 ∧ S i = 42 ∧ ¬ (49 ≤ S (i + 1) ∧ S (i + 1) ≤ 57)) := by
  obtain ⟨Ma, hMa⟩ : ∃ Ma, Ma = upMS M 3 7 (nI 1) := ⟨_, rfl⟩
  have ta : TX S T i Ma := by rw [hMa]; exact h.up (by omega) _
  have eA : EE M Ma := by rw [hMa]; exact EE.up M (by omega) _
  have a5 : Ma.1 3 5 = M.1 3 5 := by rw [hMa, up_n (by omega)]
  have a6 : Ma.1 3 6 = M.1 3 6 := by rw [hMa, up_n (by omega)]
  have a7 : Ma.1 3 7 = nI 1 := by rw [hMa, up_s]
  unfold f_X6_readsOften
  rw [pu_i1, ← hMa, pu_nm]
  by_cases q : S i = 42
  · have hiT := h.lt (j := i) (by omega)
    have y : f_X6_takes Ma 42 = some (nI 1, upMS Ma 3 4 (nI (i + 1))) := r_yes ta q
    obtain ⟨Mb, hMb⟩ : ∃ Mb, Mb = upMS Ma 3 4 (nI (i + 1)) := ⟨_, rfl⟩
    have tb : TX S T (i + 1) Mb := by rw [hMb]; exact ta.nx (by omega)
    have eB : EE M Mb := by rw [hMb]; exact eA.trans (EE.up _ (by omega) _)
    have b5 : Mb.1 3 5 = M.1 3 5 := by rw [hMb, up_n (by omega), a5]
    have b6 : Mb.1 3 6 = M.1 3 6 := by rw [hMb, up_n (by omega), a6]
    rw [y, pu_bnd2, if_neg n10, ← hMb]
    by_cases q2 : 48 + 1 ≤ S (i + 1) ∧ S (i + 1) ≤ 48 + 9
    · left
      have hi2 := h.lt (j := i + 1) (by omega)
      have y2 : f_X6_figure Mb (nI 1) 9 = some (nI (S (i + 1) - 48), upMS Mb 3 4 (nI (i + 1 + 1))) := r_fyes tb (a := 1) (b := 9) (by omega) (by omega) q2
      rw [y2, pu_bnd2, pu_nm, up_s]
      obtain ⟨Mc, hMc⟩ : ∃ Mc, Mc = upMS (upMS Mb 3 4 (nI (i + 1 + 1))) 3 7 (nI (S (i + 1) - 48)) := ⟨_, rfl⟩
      have tc : TX S T (i + 1 + 1) Mc := by rw [hMc]; exact (tb.nx (by omega)).up (by omega) _
      have eC : EE M Mc := by rw [hMc]; exact eB.trans ((EE.up _ (by omega) _).trans (EE.up _ (by omega) _))
      have c5 : Mc.1 3 5 = M.1 3 5 := by rw [hMc, up_n (by omega), up_n (by omega), b5]
      have c6 : Mc.1 3 6 = M.1 3 6 := by rw [hMc, up_n (by omega), up_n (by omega), b6]
      have c7 : Mc.1 3 7 = nI (S (i + 1) - 48) := by rw [hMc, up_s]
      rw [← hMc]
      unfold f_X6_readsOften_b48 f_X6_readsOften_b52
      by_cases q3 : S (i + 1) = 49
      · have e1 : S (i + 1) - 48 = 1 := by omega
        rw [e1] at c7 ⊢
        rw [if_pos rfl]
        by_cases q4 : S (i + 1 + 1) = 48
        · have hi3 := h.lt (j := i + 1 + 1) (by omega)
          have y3 : f_X6_takes Mc 48 = some (nI 1, upMS Mc 3 4 (nI (i + 1 + 1 + 1))) := r_yes tc q4
          refine ⟨10, i + 1 + 1 + 1, upMS (upMS Mc 3 4 (nI (i + 1 + 1 + 1))) 3 7 (nI 10), ?_, (tc.nx (by omega)).up (by omega) _, eC.trans ((EE.up _ (by omega) _).trans (EE.up _ (by omega) _)), ?_, ?_, up_s, Or.inr (Or.inr ⟨q, q3, q4, rfl, rfl⟩)⟩
          · rw [y3, pu_bnd2, if_neg n10, pu_nm, pu_i10, r_b55 (t := 10) (by omega) up_s]
          · rw [up_n (by omega), up_n (by omega), c5]
          · rw [up_n (by omega), up_n (by omega), c6]
        · have y3 : f_X6_takes Mc 48 = some (nI 0, Mc) := r_no tc (c := 48) (by omega) q4
          refine ⟨1, i + 1 + 1, Mc, ?_, tc, eC, c5, c6, c7, Or.inr (Or.inl ⟨q, by omega, by omega, by omega, rfl, Or.inr q4⟩)⟩
          rw [y3, pu_bnd2, if_pos (show nI 0 = 0 from rfl), pu_nm, upMS_id rfl, r_b55 (t := 1) (by omega) c7]
      · refine ⟨S (i + 1) - 48, i + 1 + 1, Mc, ?_, tc, eC, c5, c6, c7, Or.inr (Or.inl ⟨q, by omega, by omega, by omega, rfl, Or.inl (by omega)⟩)⟩
        rw [if_neg (show ¬ nI (S (i + 1) - 48) = nI 1 from by rw [nI_eq (by omega) (by omega)]; omega), pu_nm, upMS_id rfl, r_b55 (t := S (i + 1) - 48) (by omega) c7]
    · right
      have y2 : f_X6_figure Mb (nI 1) 9 = some (mI, Mb) := r_fno tb (a := 1) (b := 9) (by omega) (by omega) q2
      rw [y2, pu_bnd2, pu_nm, up_s, if_neg (show ¬ mI = nI 1 from by rw [pu_mI_nI (by omega)]; exact fun q => q)]
      unfold f_X6_readsOften_b48 f_X6_readsOften_b52 f_X6_readsOften_b55
      refine ⟨upMS Mb 3 7 mI, ?_, tb.up (by omega) _, eB.trans (EE.up _ (by omega) _), q, by omega⟩
      rw [pu_nm, upMS_id rfl, up_s, pu_m1, if_pos rfl]
      rfl
  · left
    have y : f_X6_takes Ma 42 = some (nI 0, Ma) := r_no ta (c := 42) (by omega) q
    refine ⟨1, i, Ma, ?_, ta, eA, a5, a6, a7, Or.inl ⟨rfl, q, rfl⟩⟩
    rw [y, pu_bnd2, if_pos (show nI 0 = 0 from rfl), r_b55 (t := 1) (by omega) a7]
